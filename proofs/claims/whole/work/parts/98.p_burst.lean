/-! pair: burst -/
/-- cells that no relation rests on -/
abbrev scr (i : Nat) : Prop := i = 68 ∨ i = 70 ∨ i = 115 ∨ i = 117 ∨ i = 76 ∨ i = 79
def DifS (h h' : HS) : Prop := hN h' = hN h ∧ (∀ i, ki h' i = ki h i) ∧ (∀ i k, ri h' i k = ri h i k) ∧ ∀ i k, ¬ scr i → vi h' i k = vi h i k
theorem DifS.rf (h : HS) : DifS h h := ⟨rfl, fun _ => rfl, fun _ _ => rfl, fun _ _ _ => rfl⟩
theorem DifS.tr {h h1 h2 : HS} (a : DifS h h1) (b : DifS h1 h2) : DifS h h2 := ⟨b.1.trans a.1, fun i => (b.2.1 i).trans (a.2.1 i), fun i k => (b.2.2.1 i k).trans (a.2.2.1 i k), fun i k e => (b.2.2.2 i k e).trans (a.2.2.2 i k e)⟩
theorem DifS.wI {h h' : HS} {i k : Nat} {v : Int32} (a : DifS h h') (e : scr i) : DifS h (wI h' i k v) := by
  refine ⟨a.1, a.2.1, a.2.2.1, fun x y hx => ?_⟩
  rw [vi_wI, if_neg (fun z => by rw [z.1] at hx; exact hx e)]
  exact a.2.2.2 x y hx
theorem DifS.setR {h h' : HS} {i : Nat} {f : Nat → Int32} (a : DifS h h') (e : scr i) : DifS h (setR h' i f) := by
  refine ⟨a.1, a.2.1, a.2.2.1, fun x y hx => ?_⟩
  rw [viS (fun z => by rw [z] at hx; exact hx e)]
  exact a.2.2.2 x y hx
theorem DifS.so {h h' : HS} (D : DifS h h') {P : Nat → Nat → Bool} (hP : ∀ i k, P i k = true → ¬ scr i) : SameOn P h h' := fun i k e => ⟨D.2.2.2 i k (hP i k e), D.2.2.1 i k⟩
theorem DifS.shp {h h' : HS} (D : DifS h h') (S : Shp h) : Shp h' := ⟨by rw [D.1]; exact S.1, fun i a b => by rw [D.2.1]; exact S.2.1 i a b, fun i a b k r e => by rw [D.2.2.1]; exact S.2.2 i a b k r e⟩
def fpG2 (i k : Nat) : Bool := (i == 71 && (k == 15 || k == 16)) || i == 74 || i == 75 || i == 77 || i == 78 || (i == 99 && k == 25) || i == 118 || i == 120 || i == 121
theorem RG.fr2 {h h' : HS} (R : RG h) (s : SameOn fpG2 h h') : RG h' := by
  obtain ⟨q, q', p, hq, h1, h2, h3, ⟨c1, c2, c3⟩, m1, m2, m3, m4⟩ := R
  have e1 : ∀ i, vi h' 118 i = vi h 118 i := fun i => (s 118 i rfl).1
  have e2 : ∀ i, vi h' 120 i = vi h 120 i := fun i => (s 120 i rfl).1
  have e3 : ∀ i, vi h' 121 i = vi h 121 i := fun i => (s 121 i rfl).1
  refine ⟨q, q', p, hq, by rw [(s 71 15 rfl).2]; exact h1, by rw [(s 71 16 rfl).2]; exact h2, h3, ?_, by rw [(s 99 25 rfl).1]; exact m1, fun l hl => by rw [e2]; exact m2 l hl, fun l hl => by rw [e3]; exact m3 l hl, fun i hi => by rw [e1, e1]; exact m4 i hi⟩
  rcases hq with ⟨rfl, -⟩ | ⟨rfl, -⟩
  · exact ⟨by rw [(s 74 1 rfl).1]; exact c1, by rw [(s 74 2 rfl).1]; exact c2, fun i hi => by rw [(s 75 i rfl).1]; exact c3 i hi⟩
  · exact ⟨by rw [(s 77 1 rfl).1]; exact c1, by rw [(s 77 2 rfl).1]; exact c2, fun i hi => by rw [(s 78 i rfl).1]; exact c3 i hi⟩
theorem fs_D (i k : Nat) (h : fpD i k = true) : ¬ scr i := by unfold fpD at h; simp at h; omega
theorem fs_W (i k : Nat) (h : fpW i k = true) : ¬ scr i := by unfold fpW at h; simp at h; omega
theorem fs_P (i k : Nat) (h : fpP i k = true) : ¬ scr i := by unfold fpP at h; simp at h; omega
theorem fs_E (i k : Nat) (h : fpE i k = true) : ¬ scr i := by unfold fpE at h; simp at h; omega
theorem fs_F (i k : Nat) (h : fpF i k = true) : ¬ scr i := by unfold fpF at h; simp at h; omega
theorem fs_T (i k : Nat) (h : fpT i k = true) : ¬ scr i := by unfold fpT at h; simp at h; omega
theorem fs_G (i k : Nat) (h : fpG2 i k = true) : ¬ scr i := by unfold fpG2 at h; simp at h; omega
theorem fs_Q (i k : Nat) (h : fpQ i k = true) : ¬ scr i := by unfold fpQ at h; simp at h; omega
theorem fs_C (i k : Nat) (h : fpC i k = true) : ¬ scr i := by unfold fpC at h; simp at h; omega
theorem Inv.scr {h h' : HS} (I : Inv h) (D : DifS h h') : Inv h' :=
  ⟨D.shp I.S, I.D.fr (D.so fs_D), I.W.fr (D.so fs_W), I.P.fr (D.so fs_P), I.E.fr (D.so fs_E), I.F.fr (D.so fs_F), I.T.fr (D.so fs_T), I.G.fr2 (D.so fs_G), I.C.fr (D.so fs_C) (by rw [D.1]; exact Nat.le_refl _) (fun i _ => D.2.1 i) (fun i h1 h2 h3 k => ⟨D.2.2.2 i k (by omega), D.2.2.1 i k⟩), I.Q.fr (D.so fs_Q) (by rw [D.1]; exact Nat.le_refl _) (fun i _ => D.2.1 i) (fun i h1 h2 h3 k => ⟨D.2.2.2 i k (by omega), D.2.2.1 i k⟩)⟩
theorem CelS.dif {h h' : HS} {o : Nat} (C : CelS h o) (D : DifS h h') : CelS h' o := by
  unfold CelS at C ⊢
  rw [D.1, D.2.1, D.2.1, D.2.1, D.2.1, D.2.2.1, D.2.2.1, D.2.2.1]; exact C
theorem Smp.dif {h h' : HS} {j o n : Nat} (M : Smp h j o n) (D : DifS h h') : Smp h' j o n := by
  have b := M.2.1.1
  obtain ⟨a1, a2, a3, a4, a5, a6, a7, a8⟩ := M
  refine ⟨a1, a2.dif D, a3, ?_, ?_, ?_, ?_, fun i hi => ?_⟩
  · rw [D.2.2.2 o 8 (by omega)]; exact a4
  · rw [D.2.2.2 107 j (by omega)]; exact a5
  · rw [D.2.2.2 o 4 (by omega), D.2.2.2 103 j (by omega)]; exact a6
  · rw [D.2.2.2 o 4 (by omega)]; exact a7
  · rw [D.2.2.2 106 _ (by omega), D.2.2.2 (o + 1) i (by omega)]; exact a8 i hi
theorem sap_dif {h h' : HS} {o : Nat} (ho : 142 ≤ o) (D : DifS h h') : sap h' o = sap h o := by
  funext X; unfold sap; rw [D.2.2.2 _ _ (by omega)]
theorem lmt_dif {h h' : HS} {o : Nat} (ho : 142 ≤ o) (D : DifS h h') : lmt h' o = lmt h o := by
  unfold lmt; rw [D.2.2.2 _ _ (by omega)]
section
variable {G : GC} {d mc ms : Nat} {h H : HS} {K : Option Value → HS → Prop} {j o n : Nat} {X : Int}
theorem s_smpMD (D : DifS h H) (S : Shp h) (M : Smp h j o n) (hX : 0 ≤ X ∧ X < n) (hk : K (some (.int (iZ (sap h o X)))) H) : Go G d mc ms M_X12_sample 0 [.ref 99, .int (iZ (j : Int)), .int (iZ X)] [] H K :=
  s_smpMY (D.shp S) (M.dif D) hX (by rw [sap_dif M.2.1.1.1 D]; exact hk)
theorem s_clpMD (D : DifS h H) (S : Shp h) (M : Smp h j o n) (hX : 0 ≤ X ∧ X < n) (hk : K (some (.int (b2i (clz (sap h o X) (lmt h o))))) H) : Go G (d + 1) mc ms M_X12_isClipped 0 [.ref 99, .int (iZ (j : Int)), .int (iZ X)] [] H K := by
  refine s_clpMY (D.shp S) (M.dif D) hX ?_
  rw [sap_dif M.2.1.1.1 D, lmt_dif M.2.1.1.1 D]; exact hk
end
/-- what is measured of a burst: peak, rise, crossings, clipped -/
abbrev crs (u v : Int) : Prop := (0 < u ∧ v < 0) ∨ (u < 0 ∧ 0 < v)
def mea (s : Int → Int) (l a : Int) : Nat → Int → Int → Int → Int → Int → Int × Int × Int × Int
  | 0, _, P, R, C, L => (P, R, C, L)
  | m + 1, X, P, R, C, L => mea s l a m (X + 1) (if P < ((s X).natAbs : Int) then ((s X).natAbs : Int) else P) (if P < ((s X).natAbs : Int) then X - a else R) (if a < X ∧ crs (s (X - 1)) (s X) then C + 1 else C) (if clz (s X) l then L + 1 else L)
theorem mea_s {s : Int → Int} {l a : Int} {m : Nat} {X P R C L P' R' C' L' : Int} (e1 : (if P < ((s X).natAbs : Int) then ((s X).natAbs : Int) else P) = P') (e2 : (if P < ((s X).natAbs : Int) then X - a else R) = R') (e3 : (if a < X ∧ crs (s (X - 1)) (s X) then C + 1 else C) = C') (e4 : (if clz (s X) l then L + 1 else L) = L') : mea s l a (m + 1) X P R C L = mea s l a m (X + 1) P' R' C' L' := by rw [← e1, ← e2, ← e3, ← e4]; rfl
theorem mea_0 {s : Int → Int} {l a : Int} {m : Nat} {C L : Int} : mea s l a (m + 1) a (-1) 0 C L = mea s l a (m + 1) a 0 0 C L := by
  have e1 : (if (-1 : Int) < ((s a).natAbs : Int) then ((s a).natAbs : Int) else -1) = (if (0 : Int) < ((s a).natAbs : Int) then ((s a).natAbs : Int) else 0) := by split <;> split <;> omega
  have e2 : (if (-1 : Int) < ((s a).natAbs : Int) then a - a else 0) = (if (0 : Int) < ((s a).natAbs : Int) then a - a else 0) := by split <;> split <;> omega
  exact (mea_s e1 e2 rfl rfl).trans (mea_s rfl rfl rfl rfl).symm
abbrev ME (h : HS) (o : Nat) (a b : Int) : Int × Int × Int × Int := mea (sap h o) (lmt h o) a (b + 1 - a).toNat a 0 0 0 0
def h70 (h : HS) (a b : Int) (t : Int × Int × Int × Int) : HS := wI (wI (wI (wI (wI h 70 2 (iZ t.1)) 70 3 (iZ (b - a + 1))) 70 4 (iZ t.2.2.1)) 70 5 (iZ t.2.1)) 70 6 (iZ t.2.2.2)
theorem d70 {h : HS} {a b : Int} {t : Int × Int × Int × Int} : DifS h (h70 h a b t) := (((((DifS.rf h).wI (by omega)).wI (by omega)).wI (by omega)).wI (by omega)).wI (by omega)
theorem wh_all {h : HS} {o n : Nat} {a b : Int} (w : wh h o n a b) : ∀ X, a ≤ X → X ≤ b → ¬ sap h o X = -1000000000 := by
  intro X x1 x2
  have y1 := all_iff.1 w.2 X x1 (by omega)
  unfold nmB at y1
  exact of_decide_eq_true y1

set_option maxRecDepth 20000 in
set_option maxHeartbeats 4000000 in
theorem me_loop {G : GC} {d mc ms : Nat} {h : HS} {K : Option Value → HS → Prop} {j o n : Nat} {a b : Int} (S : Shp h) (M : Smp h j o n) (ha : 0 ≤ a ∧ b < n) (hw : ∀ X, a ≤ X → X ≤ b → ¬ sap h o X = -1000000000) : ∀ (m : Nat) (X P R C L : Int) (v9 : Value), X + m = b + 1 → a ≤ X → (-1 ≤ P ∧ P ≤ 999) → (0 ≤ R ∧ R ≤ 200) → (0 ≤ C ∧ C ≤ X - a) → (0 ≤ L ∧ L ≤ X - a) → K (some (.int (iZ 1))) (h70 h a b (mea (sap h o) (lmt h o) a m X P R C L)) → Go G (d + 2) mc ms M_X0_measure 26 [.ref 69, .ref o, .int (iZ a), .int (iZ b), .int (iZ P), .int (iZ R), .int (iZ C), .int (iZ L), .int (iZ X), v9] [] h K := by
  have CS := M.2.1
  have hn := M.n
  have hj6 := M.j
  have hq0 := CS.1
  intro m
  induction m with
  | zero =>
    intro X P R C L v9 hm hx hP hR hC hL hk
    refine Go_iload (pc' := 28) dX0_measure_26 rfl rfl ?_
    refine Go_iload_n (pc' := 29) dX0_measure_28 rfl rfl rfl ?_
    refine Go_icmp_gtY (tgt := 106) (pc' := 32) dX0_measure_29 (by decide) rfl (by first | exact ⟨i_lo _, i_hi _⟩ | omega) (by first | exact ⟨i_lo _, i_hi _⟩ | omega) (fun c29 => ?_) (fun c29 => by exfalso; omega)
    refine Go_aload_n (pc' := 107) dX0_measure_106 rfl rfl rfl ?_
    refine Go_getRs (pc' := 110) dX0_measure_107 rfl kf_RX0_9 (by decide) (by decide) rfl (S.b 69 rfl rfl) (S.o 69 rfl rfl rfl) (S.r 69 0 rfl rfl rfl) ?_
    refine Go_iconst (v := iZ 2) (pc' := 111) dX0_measure_110 rfl (by decide) ?_
    refine Go_iload (pc' := 113) dX0_measure_111 rfl rfl ?_
    refine Go_iastoreZ (n := 7) (k := 2) (pc' := 114) dX0_measure_113 rfl (S.b 70 rfl rfl) (S.k 70 rfl rfl rfl) rfl (by decide) (by decide) ?_
    refine Go_aload_n (pc' := 115) dX0_measure_114 rfl rfl rfl ?_
    refine Go_getRs (pc' := 118) dX0_measure_115 rfl kf_RX0_9 (by decide) (by decide) rfl (S.b 69 rfl rfl) (S.o 69 rfl rfl rfl) (S.r 69 0 rfl rfl rfl) ?_
    refine Go_iconst (v := iZ 3) (pc' := 119) dX0_measure_118 rfl (by decide) ?_
    refine Go_iload_n (pc' := 120) dX0_measure_119 rfl rfl rfl ?_
    refine Go_iload_n (pc' := 121) dX0_measure_120 rfl rfl rfl ?_
    refine Go_isubZ (pc' := 122) dX0_measure_121 rfl ?_
    refine Go_iconst (v := iZ 1) (pc' := 123) dX0_measure_122 rfl (by decide) ?_
    refine Go_iaddZ (pc' := 124) dX0_measure_123 rfl ?_
    refine Go_iastoreZ (n := 7) (k := 3) (pc' := 125) dX0_measure_124 rfl (S.b 70 rfl rfl) (S.k 70 rfl rfl rfl) rfl (by decide) (by decide) ?_
    refine Go_aload_n (pc' := 126) dX0_measure_125 rfl rfl rfl ?_
    refine Go_getRs (pc' := 129) dX0_measure_126 rfl kf_RX0_9 (by decide) (by decide) rfl (S.b 69 rfl rfl) (S.o 69 rfl rfl rfl) (S.r 69 0 rfl rfl rfl) ?_
    refine Go_iconst (v := iZ 4) (pc' := 130) dX0_measure_129 rfl (by decide) ?_
    refine Go_iload (pc' := 132) dX0_measure_130 rfl rfl ?_
    refine Go_iastoreZ (n := 7) (k := 4) (pc' := 133) dX0_measure_132 rfl (S.b 70 rfl rfl) (S.k 70 rfl rfl rfl) rfl (by decide) (by decide) ?_
    refine Go_aload_n (pc' := 134) dX0_measure_133 rfl rfl rfl ?_
    refine Go_getRs (pc' := 137) dX0_measure_134 rfl kf_RX0_9 (by decide) (by decide) rfl (S.b 69 rfl rfl) (S.o 69 rfl rfl rfl) (S.r 69 0 rfl rfl rfl) ?_
    refine Go_iconst (v := iZ 5) (pc' := 138) dX0_measure_137 rfl (by decide) ?_
    refine Go_iload (pc' := 140) dX0_measure_138 rfl rfl ?_
    refine Go_iastoreZ (n := 7) (k := 5) (pc' := 141) dX0_measure_140 rfl (S.b 70 rfl rfl) (S.k 70 rfl rfl rfl) rfl (by decide) (by decide) ?_
    refine Go_aload_n (pc' := 142) dX0_measure_141 rfl rfl rfl ?_
    refine Go_getRs (pc' := 145) dX0_measure_142 rfl kf_RX0_9 (by decide) (by decide) rfl (S.b 69 rfl rfl) (S.o 69 rfl rfl rfl) (S.r 69 0 rfl rfl rfl) ?_
    refine Go_bipush (v := iZ 6) (pc' := 147) dX0_measure_145 rfl (by decide) ?_
    refine Go_iload (pc' := 149) dX0_measure_147 rfl rfl ?_
    refine Go_iastoreZ (n := 7) (k := 6) (pc' := 150) dX0_measure_149 rfl (S.b 70 rfl rfl) (S.k 70 rfl rfl rfl) rfl (by decide) (by decide) ?_
    refine Go_iconst (v := iZ 1) (pc' := 151) dX0_measure_150 rfl (by decide) ?_
    refine Go_ireturn (ty := .boolean) dX0_measure_151 rfl rfl ?_
    exact hk
  | succ m ih =>
    intro X P R C L v9 hm hx hP hR hC hL hk
    have s0 := sap_ok M (X := X) (by omega)
    have s1 := hw X (by omega) (by omega)
    have s2 : a < X → (-999 ≤ sap h o (X - 1) ∧ sap h o (X - 1) ≤ 999) := fun z => by have q1 := sap_ok M (X := X - 1) (by omega); have q2 := hw (X - 1) (by omega) (by omega); omega
    refine Go_iload (pc' := 28) dX0_measure_26 rfl rfl ?_
    refine Go_iload_n (pc' := 29) dX0_measure_28 rfl rfl rfl ?_
    refine Go_icmp_gtY (tgt := 106) (pc' := 32) dX0_measure_29 (by decide) rfl (by first | exact ⟨i_lo _, i_hi _⟩ | omega) (by first | exact ⟨i_lo _, i_hi _⟩ | omega) (fun c29 => by exfalso; omega) (fun c29 => ?_)
    refine Go_aload_n (pc' := 33) dX0_measure_32 rfl rfl rfl ?_
    refine Go_iload (pc' := 35) dX0_measure_33 rfl rfl ?_
    refine Go_callV_i (pc' := 38) (As := [.int _]) (st := []) dX0_measure_35 rfl ok_X2_sampleAt km_RX0_21 CS.o CS.b ⟨_, _, rfl⟩ rfl (Nat.le_of_ble_eq_true rfl) rfl rfl rfl (Nat.le_of_ble_eq_true rfl) (Nat.lt_succ_self _) ?_
    refine s_smpY M (by omega) ?_
    refine ⟨_, rfl, ?_⟩
    refine Go_istore (pc' := 40) (lv' := [.ref _, .ref _, .int _, .int _, .int _, .int _, .int _, .int _, .int _, .int _]) dX0_measure_38 rfl (Nat.le_of_ble_eq_true rfl) rfl rfl ?_
    refine Go_iload (pc' := 42) dX0_measure_40 rfl rfl ?_
    refine Go_callS_i (pc' := 45) (As := [.int _]) (st := []) dX0_measure_42 rfl ok_J9_abs_0f7a4 km_RX0_25 rfl (Nat.le_of_ble_eq_true rfl) rfl rfl rfl (Nat.le_of_ble_eq_true rfl) (Nat.lt_succ_self _) ?_
    refine s_absY (by omega) ?_
    refine ⟨_, rfl, ?_⟩
    refine Go_iload (pc' := 47) dX0_measure_45 rfl rfl ?_
    refine Go_icmp_leY (tgt := 63) (pc' := 50) dX0_measure_47 (by decide) rfl (by first | exact ⟨i_lo _, i_hi _⟩ | omega) (by first | exact ⟨i_lo _, i_hi _⟩ | omega) (fun c47 => ?_) (fun c47 => ?_)
    · refine Go_iload (pc' := 65) dX0_measure_63 rfl rfl ?_
      refine Go_iload_n (pc' := 66) dX0_measure_65 rfl rfl rfl ?_
      refine Go_icmp_leY (tgt := 88) (pc' := 69) dX0_measure_66 (by decide) rfl (by first | exact ⟨i_lo _, i_hi _⟩ | omega) (by first | exact ⟨i_lo _, i_hi _⟩ | omega) (fun c66 => ?_) (fun c66 => ?_)
      · refine Go_aload_n (pc' := 89) dX0_measure_88 rfl rfl rfl ?_
        refine Go_iload (pc' := 91) dX0_measure_89 rfl rfl ?_
        refine Go_callV_i (pc' := 94) (As := [.int _]) (st := []) dX0_measure_91 rfl ok_X2_isClipped km_RX0_33 CS.o CS.b ⟨_, _, rfl⟩ rfl (Nat.le_of_ble_eq_true rfl) rfl rfl rfl (Nat.le_of_ble_eq_true rfl) (Nat.lt_succ_self _) ?_
        refine s_clpY M (by omega) ?_
        refine ⟨_, rfl, ?_⟩
        refine Go_if_eqb (tgt := 100) (pc' := 97) dX0_measure_94 (by decide) rfl (fun c94 => ?_) (fun c94 => ?_)
        · refine Go_iincZ (pc' := 103) (lv' := [.ref _, .ref _, .int _, .int _, .int _, .int _, .int _, .int _, .int _, .int _]) dX0_measure_100 rfl rfl (Nat.le_of_ble_eq_true rfl) rfl rfl ?_
          refine Go_goto (tgt := 26) dX0_measure_103 (by decide) ?_
          rw [mea_s (P' := P) (R' := R) (C' := C) (L' := L) (by split <;> omega) (by split <;> omega) (by split <;> omega) (by split <;> omega)] at hk
          exact ih (X + 1) _ _ _ _ _ (by omega) (by omega) (by omega) (by omega) (by omega) (by omega) hk
        · refine Go_iincZ (pc' := 100) (lv' := [.ref _, .ref _, .int _, .int _, .int _, .int _, .int _, .int _, .int _, .int _]) dX0_measure_97 rfl rfl (Nat.le_of_ble_eq_true rfl) rfl rfl ?_
          refine Go_iincZ (pc' := 103) (lv' := [.ref _, .ref _, .int _, .int _, .int _, .int _, .int _, .int _, .int _, .int _]) dX0_measure_100 rfl rfl (Nat.le_of_ble_eq_true rfl) rfl rfl ?_
          refine Go_goto (tgt := 26) dX0_measure_103 (by decide) ?_
          rw [mea_s (P' := P) (R' := R) (C' := C) (L' := (L + 1)) (by split <;> omega) (by split <;> omega) (by split <;> omega) (by split <;> omega)] at hk
          exact ih (X + 1) _ _ _ _ _ (by omega) (by omega) (by omega) (by omega) (by omega) (by omega) hk
      · refine Go_aload_n (pc' := 70) dX0_measure_69 rfl rfl rfl ?_
        refine Go_iload (pc' := 72) dX0_measure_70 rfl rfl ?_
        refine Go_iconst (v := iZ 1) (pc' := 73) dX0_measure_72 rfl (by decide) ?_
        refine Go_isubZ (pc' := 74) dX0_measure_73 rfl ?_
        refine Go_callV_i (pc' := 77) (As := [.int _]) (st := []) dX0_measure_74 rfl ok_X2_sampleAt km_RX0_21 CS.o CS.b ⟨_, _, rfl⟩ rfl (Nat.le_of_ble_eq_true rfl) rfl rfl rfl (Nat.le_of_ble_eq_true rfl) (Nat.lt_succ_self _) ?_
        refine s_smpY M (by omega) ?_
        refine ⟨_, rfl, ?_⟩
        refine Go_iload (pc' := 79) dX0_measure_77 rfl rfl ?_
        refine Go_callS_i (pc' := 82) (As := [.int _, .int _]) (st := []) dX0_measure_79 rfl ok_X0_isCrossing km_RX0_30 rfl (Nat.le_of_ble_eq_true rfl) rfl rfl rfl (Nat.le_of_ble_eq_true rfl) (Nat.lt_succ_self _) ?_
        refine Go_iload_n (pc' := 1) dX0_isCrossing_0 rfl rfl rfl ?_
        refine Go_if_leY (tgt := 8) (pc' := 4) dX0_isCrossing_1 (by decide) rfl (by first | exact ⟨i_lo _, i_hi _⟩ | omega) (fun x1 => ?_) (fun x1 => ?_)
        · refine Go_iload_n (pc' := 9) dX0_isCrossing_8 rfl rfl rfl ?_
          refine Go_if_geY (tgt := 20) (pc' := 12) dX0_isCrossing_9 (by decide) rfl (by first | exact ⟨i_lo _, i_hi _⟩ | omega) (fun x9 => ?_) (fun x9 => ?_)
          · refine Go_iconst (v := iZ 0) (pc' := 21) dX0_isCrossing_20 rfl (by decide) ?_
            refine Go_ireturn (ty := .boolean) dX0_isCrossing_21 rfl rfl ?_
            refine ⟨_, rfl, ?_⟩
            refine Go_if_eqY (tgt := 88) (pc' := 85) dX0_measure_82 (by decide) rfl (by first | exact ⟨i_lo _, i_hi _⟩ | omega) (fun c82 => ?_) (fun c82 => by exfalso; omega)
            refine Go_aload_n (pc' := 89) dX0_measure_88 rfl rfl rfl ?_
            refine Go_iload (pc' := 91) dX0_measure_89 rfl rfl ?_
            refine Go_callV_i (pc' := 94) (As := [.int _]) (st := []) dX0_measure_91 rfl ok_X2_isClipped km_RX0_33 CS.o CS.b ⟨_, _, rfl⟩ rfl (Nat.le_of_ble_eq_true rfl) rfl rfl rfl (Nat.le_of_ble_eq_true rfl) (Nat.lt_succ_self _) ?_
            refine s_clpY M (by omega) ?_
            refine ⟨_, rfl, ?_⟩
            refine Go_if_eqb (tgt := 100) (pc' := 97) dX0_measure_94 (by decide) rfl (fun c94 => ?_) (fun c94 => ?_)
            · refine Go_iincZ (pc' := 103) (lv' := [.ref _, .ref _, .int _, .int _, .int _, .int _, .int _, .int _, .int _, .int _]) dX0_measure_100 rfl rfl (Nat.le_of_ble_eq_true rfl) rfl rfl ?_
              refine Go_goto (tgt := 26) dX0_measure_103 (by decide) ?_
              rw [mea_s (P' := P) (R' := R) (C' := C) (L' := L) (by split <;> omega) (by split <;> omega) (by split <;> omega) (by split <;> omega)] at hk
              exact ih (X + 1) _ _ _ _ _ (by omega) (by omega) (by omega) (by omega) (by omega) (by omega) hk
            · refine Go_iincZ (pc' := 100) (lv' := [.ref _, .ref _, .int _, .int _, .int _, .int _, .int _, .int _, .int _, .int _]) dX0_measure_97 rfl rfl (Nat.le_of_ble_eq_true rfl) rfl rfl ?_
              refine Go_iincZ (pc' := 103) (lv' := [.ref _, .ref _, .int _, .int _, .int _, .int _, .int _, .int _, .int _, .int _]) dX0_measure_100 rfl rfl (Nat.le_of_ble_eq_true rfl) rfl rfl ?_
              refine Go_goto (tgt := 26) dX0_measure_103 (by decide) ?_
              rw [mea_s (P' := P) (R' := R) (C' := C) (L' := (L + 1)) (by split <;> omega) (by split <;> omega) (by split <;> omega) (by split <;> omega)] at hk
              exact ih (X + 1) _ _ _ _ _ (by omega) (by omega) (by omega) (by omega) (by omega) (by omega) hk
          · refine Go_iload_n (pc' := 13) dX0_isCrossing_12 rfl rfl rfl ?_
            refine Go_if_leY (tgt := 20) (pc' := 16) dX0_isCrossing_13 (by decide) rfl (by first | exact ⟨i_lo _, i_hi _⟩ | omega) (fun x13 => ?_) (fun x13 => ?_)
            · refine Go_iconst (v := iZ 0) (pc' := 21) dX0_isCrossing_20 rfl (by decide) ?_
              refine Go_ireturn (ty := .boolean) dX0_isCrossing_21 rfl rfl ?_
              refine ⟨_, rfl, ?_⟩
              refine Go_if_eqY (tgt := 88) (pc' := 85) dX0_measure_82 (by decide) rfl (by first | exact ⟨i_lo _, i_hi _⟩ | omega) (fun c82 => ?_) (fun c82 => by exfalso; omega)
              refine Go_aload_n (pc' := 89) dX0_measure_88 rfl rfl rfl ?_
              refine Go_iload (pc' := 91) dX0_measure_89 rfl rfl ?_
              refine Go_callV_i (pc' := 94) (As := [.int _]) (st := []) dX0_measure_91 rfl ok_X2_isClipped km_RX0_33 CS.o CS.b ⟨_, _, rfl⟩ rfl (Nat.le_of_ble_eq_true rfl) rfl rfl rfl (Nat.le_of_ble_eq_true rfl) (Nat.lt_succ_self _) ?_
              refine s_clpY M (by omega) ?_
              refine ⟨_, rfl, ?_⟩
              refine Go_if_eqb (tgt := 100) (pc' := 97) dX0_measure_94 (by decide) rfl (fun c94 => ?_) (fun c94 => ?_)
              · refine Go_iincZ (pc' := 103) (lv' := [.ref _, .ref _, .int _, .int _, .int _, .int _, .int _, .int _, .int _, .int _]) dX0_measure_100 rfl rfl (Nat.le_of_ble_eq_true rfl) rfl rfl ?_
                refine Go_goto (tgt := 26) dX0_measure_103 (by decide) ?_
                rw [mea_s (P' := P) (R' := R) (C' := C) (L' := L) (by split <;> omega) (by split <;> omega) (by split <;> omega) (by split <;> omega)] at hk
                exact ih (X + 1) _ _ _ _ _ (by omega) (by omega) (by omega) (by omega) (by omega) (by omega) hk
              · refine Go_iincZ (pc' := 100) (lv' := [.ref _, .ref _, .int _, .int _, .int _, .int _, .int _, .int _, .int _, .int _]) dX0_measure_97 rfl rfl (Nat.le_of_ble_eq_true rfl) rfl rfl ?_
                refine Go_iincZ (pc' := 103) (lv' := [.ref _, .ref _, .int _, .int _, .int _, .int _, .int _, .int _, .int _, .int _]) dX0_measure_100 rfl rfl (Nat.le_of_ble_eq_true rfl) rfl rfl ?_
                refine Go_goto (tgt := 26) dX0_measure_103 (by decide) ?_
                rw [mea_s (P' := P) (R' := R) (C' := C) (L' := (L + 1)) (by split <;> omega) (by split <;> omega) (by split <;> omega) (by split <;> omega)] at hk
                exact ih (X + 1) _ _ _ _ _ (by omega) (by omega) (by omega) (by omega) (by omega) (by omega) hk
            · refine Go_iconst (v := iZ 1) (pc' := 17) dX0_isCrossing_16 rfl (by decide) ?_
              refine Go_goto (tgt := 21) dX0_isCrossing_17 (by decide) ?_
              refine Go_ireturn (ty := .boolean) dX0_isCrossing_21 rfl rfl ?_
              refine ⟨_, rfl, ?_⟩
              refine Go_if_eqY (tgt := 88) (pc' := 85) dX0_measure_82 (by decide) rfl (by first | exact ⟨i_lo _, i_hi _⟩ | omega) (fun c82 => by exfalso; omega) (fun c82 => ?_)
              refine Go_iincZ (pc' := 88) (lv' := [.ref _, .ref _, .int _, .int _, .int _, .int _, .int _, .int _, .int _, .int _]) dX0_measure_85 rfl rfl (Nat.le_of_ble_eq_true rfl) rfl rfl ?_
              refine Go_aload_n (pc' := 89) dX0_measure_88 rfl rfl rfl ?_
              refine Go_iload (pc' := 91) dX0_measure_89 rfl rfl ?_
              refine Go_callV_i (pc' := 94) (As := [.int _]) (st := []) dX0_measure_91 rfl ok_X2_isClipped km_RX0_33 CS.o CS.b ⟨_, _, rfl⟩ rfl (Nat.le_of_ble_eq_true rfl) rfl rfl rfl (Nat.le_of_ble_eq_true rfl) (Nat.lt_succ_self _) ?_
              refine s_clpY M (by omega) ?_
              refine ⟨_, rfl, ?_⟩
              refine Go_if_eqb (tgt := 100) (pc' := 97) dX0_measure_94 (by decide) rfl (fun c94 => ?_) (fun c94 => ?_)
              · refine Go_iincZ (pc' := 103) (lv' := [.ref _, .ref _, .int _, .int _, .int _, .int _, .int _, .int _, .int _, .int _]) dX0_measure_100 rfl rfl (Nat.le_of_ble_eq_true rfl) rfl rfl ?_
                refine Go_goto (tgt := 26) dX0_measure_103 (by decide) ?_
                rw [mea_s (P' := P) (R' := R) (C' := (C + 1)) (L' := L) (by split <;> omega) (by split <;> omega) (by split <;> omega) (by split <;> omega)] at hk
                exact ih (X + 1) _ _ _ _ _ (by omega) (by omega) (by omega) (by omega) (by omega) (by omega) hk
              · refine Go_iincZ (pc' := 100) (lv' := [.ref _, .ref _, .int _, .int _, .int _, .int _, .int _, .int _, .int _, .int _]) dX0_measure_97 rfl rfl (Nat.le_of_ble_eq_true rfl) rfl rfl ?_
                refine Go_iincZ (pc' := 103) (lv' := [.ref _, .ref _, .int _, .int _, .int _, .int _, .int _, .int _, .int _, .int _]) dX0_measure_100 rfl rfl (Nat.le_of_ble_eq_true rfl) rfl rfl ?_
                refine Go_goto (tgt := 26) dX0_measure_103 (by decide) ?_
                rw [mea_s (P' := P) (R' := R) (C' := (C + 1)) (L' := (L + 1)) (by split <;> omega) (by split <;> omega) (by split <;> omega) (by split <;> omega)] at hk
                exact ih (X + 1) _ _ _ _ _ (by omega) (by omega) (by omega) (by omega) (by omega) (by omega) hk
        · refine Go_iload_n (pc' := 5) dX0_isCrossing_4 rfl rfl rfl ?_
          refine Go_if_ltY (tgt := 16) (pc' := 8) dX0_isCrossing_5 (by decide) rfl (by first | exact ⟨i_lo _, i_hi _⟩ | omega) (fun x5 => ?_) (fun x5 => ?_)
          · refine Go_iconst (v := iZ 1) (pc' := 17) dX0_isCrossing_16 rfl (by decide) ?_
            refine Go_goto (tgt := 21) dX0_isCrossing_17 (by decide) ?_
            refine Go_ireturn (ty := .boolean) dX0_isCrossing_21 rfl rfl ?_
            refine ⟨_, rfl, ?_⟩
            refine Go_if_eqY (tgt := 88) (pc' := 85) dX0_measure_82 (by decide) rfl (by first | exact ⟨i_lo _, i_hi _⟩ | omega) (fun c82 => by exfalso; omega) (fun c82 => ?_)
            refine Go_iincZ (pc' := 88) (lv' := [.ref _, .ref _, .int _, .int _, .int _, .int _, .int _, .int _, .int _, .int _]) dX0_measure_85 rfl rfl (Nat.le_of_ble_eq_true rfl) rfl rfl ?_
            refine Go_aload_n (pc' := 89) dX0_measure_88 rfl rfl rfl ?_
            refine Go_iload (pc' := 91) dX0_measure_89 rfl rfl ?_
            refine Go_callV_i (pc' := 94) (As := [.int _]) (st := []) dX0_measure_91 rfl ok_X2_isClipped km_RX0_33 CS.o CS.b ⟨_, _, rfl⟩ rfl (Nat.le_of_ble_eq_true rfl) rfl rfl rfl (Nat.le_of_ble_eq_true rfl) (Nat.lt_succ_self _) ?_
            refine s_clpY M (by omega) ?_
            refine ⟨_, rfl, ?_⟩
            refine Go_if_eqb (tgt := 100) (pc' := 97) dX0_measure_94 (by decide) rfl (fun c94 => ?_) (fun c94 => ?_)
            · refine Go_iincZ (pc' := 103) (lv' := [.ref _, .ref _, .int _, .int _, .int _, .int _, .int _, .int _, .int _, .int _]) dX0_measure_100 rfl rfl (Nat.le_of_ble_eq_true rfl) rfl rfl ?_
              refine Go_goto (tgt := 26) dX0_measure_103 (by decide) ?_
              rw [mea_s (P' := P) (R' := R) (C' := (C + 1)) (L' := L) (by split <;> omega) (by split <;> omega) (by split <;> omega) (by split <;> omega)] at hk
              exact ih (X + 1) _ _ _ _ _ (by omega) (by omega) (by omega) (by omega) (by omega) (by omega) hk
            · refine Go_iincZ (pc' := 100) (lv' := [.ref _, .ref _, .int _, .int _, .int _, .int _, .int _, .int _, .int _, .int _]) dX0_measure_97 rfl rfl (Nat.le_of_ble_eq_true rfl) rfl rfl ?_
              refine Go_iincZ (pc' := 103) (lv' := [.ref _, .ref _, .int _, .int _, .int _, .int _, .int _, .int _, .int _, .int _]) dX0_measure_100 rfl rfl (Nat.le_of_ble_eq_true rfl) rfl rfl ?_
              refine Go_goto (tgt := 26) dX0_measure_103 (by decide) ?_
              rw [mea_s (P' := P) (R' := R) (C' := (C + 1)) (L' := (L + 1)) (by split <;> omega) (by split <;> omega) (by split <;> omega) (by split <;> omega)] at hk
              exact ih (X + 1) _ _ _ _ _ (by omega) (by omega) (by omega) (by omega) (by omega) (by omega) hk
          · refine Go_iload_n (pc' := 9) dX0_isCrossing_8 rfl rfl rfl ?_
            refine Go_if_geY (tgt := 20) (pc' := 12) dX0_isCrossing_9 (by decide) rfl (by first | exact ⟨i_lo _, i_hi _⟩ | omega) (fun x9 => ?_) (fun x9 => ?_)
            · refine Go_iconst (v := iZ 0) (pc' := 21) dX0_isCrossing_20 rfl (by decide) ?_
              refine Go_ireturn (ty := .boolean) dX0_isCrossing_21 rfl rfl ?_
              refine ⟨_, rfl, ?_⟩
              refine Go_if_eqY (tgt := 88) (pc' := 85) dX0_measure_82 (by decide) rfl (by first | exact ⟨i_lo _, i_hi _⟩ | omega) (fun c82 => ?_) (fun c82 => by exfalso; omega)
              refine Go_aload_n (pc' := 89) dX0_measure_88 rfl rfl rfl ?_
              refine Go_iload (pc' := 91) dX0_measure_89 rfl rfl ?_
              refine Go_callV_i (pc' := 94) (As := [.int _]) (st := []) dX0_measure_91 rfl ok_X2_isClipped km_RX0_33 CS.o CS.b ⟨_, _, rfl⟩ rfl (Nat.le_of_ble_eq_true rfl) rfl rfl rfl (Nat.le_of_ble_eq_true rfl) (Nat.lt_succ_self _) ?_
              refine s_clpY M (by omega) ?_
              refine ⟨_, rfl, ?_⟩
              refine Go_if_eqb (tgt := 100) (pc' := 97) dX0_measure_94 (by decide) rfl (fun c94 => ?_) (fun c94 => ?_)
              · refine Go_iincZ (pc' := 103) (lv' := [.ref _, .ref _, .int _, .int _, .int _, .int _, .int _, .int _, .int _, .int _]) dX0_measure_100 rfl rfl (Nat.le_of_ble_eq_true rfl) rfl rfl ?_
                refine Go_goto (tgt := 26) dX0_measure_103 (by decide) ?_
                rw [mea_s (P' := P) (R' := R) (C' := C) (L' := L) (by split <;> omega) (by split <;> omega) (by split <;> omega) (by split <;> omega)] at hk
                exact ih (X + 1) _ _ _ _ _ (by omega) (by omega) (by omega) (by omega) (by omega) (by omega) hk
              · refine Go_iincZ (pc' := 100) (lv' := [.ref _, .ref _, .int _, .int _, .int _, .int _, .int _, .int _, .int _, .int _]) dX0_measure_97 rfl rfl (Nat.le_of_ble_eq_true rfl) rfl rfl ?_
                refine Go_iincZ (pc' := 103) (lv' := [.ref _, .ref _, .int _, .int _, .int _, .int _, .int _, .int _, .int _, .int _]) dX0_measure_100 rfl rfl (Nat.le_of_ble_eq_true rfl) rfl rfl ?_
                refine Go_goto (tgt := 26) dX0_measure_103 (by decide) ?_
                rw [mea_s (P' := P) (R' := R) (C' := C) (L' := (L + 1)) (by split <;> omega) (by split <;> omega) (by split <;> omega) (by split <;> omega)] at hk
                exact ih (X + 1) _ _ _ _ _ (by omega) (by omega) (by omega) (by omega) (by omega) (by omega) hk
            · refine Go_iload_n (pc' := 13) dX0_isCrossing_12 rfl rfl rfl ?_
              refine Go_if_leY (tgt := 20) (pc' := 16) dX0_isCrossing_13 (by decide) rfl (by first | exact ⟨i_lo _, i_hi _⟩ | omega) (fun x13 => ?_) (fun x13 => ?_)
              · refine Go_iconst (v := iZ 0) (pc' := 21) dX0_isCrossing_20 rfl (by decide) ?_
                refine Go_ireturn (ty := .boolean) dX0_isCrossing_21 rfl rfl ?_
                refine ⟨_, rfl, ?_⟩
                refine Go_if_eqY (tgt := 88) (pc' := 85) dX0_measure_82 (by decide) rfl (by first | exact ⟨i_lo _, i_hi _⟩ | omega) (fun c82 => ?_) (fun c82 => by exfalso; omega)
                refine Go_aload_n (pc' := 89) dX0_measure_88 rfl rfl rfl ?_
                refine Go_iload (pc' := 91) dX0_measure_89 rfl rfl ?_
                refine Go_callV_i (pc' := 94) (As := [.int _]) (st := []) dX0_measure_91 rfl ok_X2_isClipped km_RX0_33 CS.o CS.b ⟨_, _, rfl⟩ rfl (Nat.le_of_ble_eq_true rfl) rfl rfl rfl (Nat.le_of_ble_eq_true rfl) (Nat.lt_succ_self _) ?_
                refine s_clpY M (by omega) ?_
                refine ⟨_, rfl, ?_⟩
                refine Go_if_eqb (tgt := 100) (pc' := 97) dX0_measure_94 (by decide) rfl (fun c94 => ?_) (fun c94 => ?_)
                · refine Go_iincZ (pc' := 103) (lv' := [.ref _, .ref _, .int _, .int _, .int _, .int _, .int _, .int _, .int _, .int _]) dX0_measure_100 rfl rfl (Nat.le_of_ble_eq_true rfl) rfl rfl ?_
                  refine Go_goto (tgt := 26) dX0_measure_103 (by decide) ?_
                  rw [mea_s (P' := P) (R' := R) (C' := C) (L' := L) (by split <;> omega) (by split <;> omega) (by split <;> omega) (by split <;> omega)] at hk
                  exact ih (X + 1) _ _ _ _ _ (by omega) (by omega) (by omega) (by omega) (by omega) (by omega) hk
                · refine Go_iincZ (pc' := 100) (lv' := [.ref _, .ref _, .int _, .int _, .int _, .int _, .int _, .int _, .int _, .int _]) dX0_measure_97 rfl rfl (Nat.le_of_ble_eq_true rfl) rfl rfl ?_
                  refine Go_iincZ (pc' := 103) (lv' := [.ref _, .ref _, .int _, .int _, .int _, .int _, .int _, .int _, .int _, .int _]) dX0_measure_100 rfl rfl (Nat.le_of_ble_eq_true rfl) rfl rfl ?_
                  refine Go_goto (tgt := 26) dX0_measure_103 (by decide) ?_
                  rw [mea_s (P' := P) (R' := R) (C' := C) (L' := (L + 1)) (by split <;> omega) (by split <;> omega) (by split <;> omega) (by split <;> omega)] at hk
                  exact ih (X + 1) _ _ _ _ _ (by omega) (by omega) (by omega) (by omega) (by omega) (by omega) hk
              · refine Go_iconst (v := iZ 1) (pc' := 17) dX0_isCrossing_16 rfl (by decide) ?_
                refine Go_goto (tgt := 21) dX0_isCrossing_17 (by decide) ?_
                refine Go_ireturn (ty := .boolean) dX0_isCrossing_21 rfl rfl ?_
                refine ⟨_, rfl, ?_⟩
                refine Go_if_eqY (tgt := 88) (pc' := 85) dX0_measure_82 (by decide) rfl (by first | exact ⟨i_lo _, i_hi _⟩ | omega) (fun c82 => by exfalso; omega) (fun c82 => ?_)
                refine Go_iincZ (pc' := 88) (lv' := [.ref _, .ref _, .int _, .int _, .int _, .int _, .int _, .int _, .int _, .int _]) dX0_measure_85 rfl rfl (Nat.le_of_ble_eq_true rfl) rfl rfl ?_
                refine Go_aload_n (pc' := 89) dX0_measure_88 rfl rfl rfl ?_
                refine Go_iload (pc' := 91) dX0_measure_89 rfl rfl ?_
                refine Go_callV_i (pc' := 94) (As := [.int _]) (st := []) dX0_measure_91 rfl ok_X2_isClipped km_RX0_33 CS.o CS.b ⟨_, _, rfl⟩ rfl (Nat.le_of_ble_eq_true rfl) rfl rfl rfl (Nat.le_of_ble_eq_true rfl) (Nat.lt_succ_self _) ?_
                refine s_clpY M (by omega) ?_
                refine ⟨_, rfl, ?_⟩
                refine Go_if_eqb (tgt := 100) (pc' := 97) dX0_measure_94 (by decide) rfl (fun c94 => ?_) (fun c94 => ?_)
                · refine Go_iincZ (pc' := 103) (lv' := [.ref _, .ref _, .int _, .int _, .int _, .int _, .int _, .int _, .int _, .int _]) dX0_measure_100 rfl rfl (Nat.le_of_ble_eq_true rfl) rfl rfl ?_
                  refine Go_goto (tgt := 26) dX0_measure_103 (by decide) ?_
                  rw [mea_s (P' := P) (R' := R) (C' := (C + 1)) (L' := L) (by split <;> omega) (by split <;> omega) (by split <;> omega) (by split <;> omega)] at hk
                  exact ih (X + 1) _ _ _ _ _ (by omega) (by omega) (by omega) (by omega) (by omega) (by omega) hk
                · refine Go_iincZ (pc' := 100) (lv' := [.ref _, .ref _, .int _, .int _, .int _, .int _, .int _, .int _, .int _, .int _]) dX0_measure_97 rfl rfl (Nat.le_of_ble_eq_true rfl) rfl rfl ?_
                  refine Go_iincZ (pc' := 103) (lv' := [.ref _, .ref _, .int _, .int _, .int _, .int _, .int _, .int _, .int _, .int _]) dX0_measure_100 rfl rfl (Nat.le_of_ble_eq_true rfl) rfl rfl ?_
                  refine Go_goto (tgt := 26) dX0_measure_103 (by decide) ?_
                  rw [mea_s (P' := P) (R' := R) (C' := (C + 1)) (L' := (L + 1)) (by split <;> omega) (by split <;> omega) (by split <;> omega) (by split <;> omega)] at hk
                  exact ih (X + 1) _ _ _ _ _ (by omega) (by omega) (by omega) (by omega) (by omega) (by omega) hk
    · refine Go_iload (pc' := 52) dX0_measure_50 rfl rfl ?_
      refine Go_callS_i (pc' := 55) (As := [.int _]) (st := []) dX0_measure_52 rfl ok_J9_abs_0f7a4 km_RX0_25 rfl (Nat.le_of_ble_eq_true rfl) rfl rfl rfl (Nat.le_of_ble_eq_true rfl) (Nat.lt_succ_self _) ?_
      refine s_absY (by omega) ?_
      refine ⟨_, rfl, ?_⟩
      refine Go_istore (pc' := 57) (lv' := [.ref _, .ref _, .int _, .int _, .int _, .int _, .int _, .int _, .int _, .int _]) dX0_measure_55 rfl (Nat.le_of_ble_eq_true rfl) rfl rfl ?_
      refine Go_iload (pc' := 59) dX0_measure_57 rfl rfl ?_
      refine Go_iload_n (pc' := 60) dX0_measure_59 rfl rfl rfl ?_
      refine Go_isubZ (pc' := 61) dX0_measure_60 rfl ?_
      refine Go_istore (pc' := 63) (lv' := [.ref _, .ref _, .int _, .int _, .int _, .int _, .int _, .int _, .int _, .int _]) dX0_measure_61 rfl (Nat.le_of_ble_eq_true rfl) rfl rfl ?_
      refine Go_iload (pc' := 65) dX0_measure_63 rfl rfl ?_
      refine Go_iload_n (pc' := 66) dX0_measure_65 rfl rfl rfl ?_
      refine Go_icmp_leY (tgt := 88) (pc' := 69) dX0_measure_66 (by decide) rfl (by first | exact ⟨i_lo _, i_hi _⟩ | omega) (by first | exact ⟨i_lo _, i_hi _⟩ | omega) (fun c66 => ?_) (fun c66 => ?_)
      · refine Go_aload_n (pc' := 89) dX0_measure_88 rfl rfl rfl ?_
        refine Go_iload (pc' := 91) dX0_measure_89 rfl rfl ?_
        refine Go_callV_i (pc' := 94) (As := [.int _]) (st := []) dX0_measure_91 rfl ok_X2_isClipped km_RX0_33 CS.o CS.b ⟨_, _, rfl⟩ rfl (Nat.le_of_ble_eq_true rfl) rfl rfl rfl (Nat.le_of_ble_eq_true rfl) (Nat.lt_succ_self _) ?_
        refine s_clpY M (by omega) ?_
        refine ⟨_, rfl, ?_⟩
        refine Go_if_eqb (tgt := 100) (pc' := 97) dX0_measure_94 (by decide) rfl (fun c94 => ?_) (fun c94 => ?_)
        · refine Go_iincZ (pc' := 103) (lv' := [.ref _, .ref _, .int _, .int _, .int _, .int _, .int _, .int _, .int _, .int _]) dX0_measure_100 rfl rfl (Nat.le_of_ble_eq_true rfl) rfl rfl ?_
          refine Go_goto (tgt := 26) dX0_measure_103 (by decide) ?_
          rw [mea_s (P' := (((sap h o X)).natAbs : Int)) (R' := (X - a)) (C' := C) (L' := L) (by split <;> omega) (by split <;> omega) (by split <;> omega) (by split <;> omega)] at hk
          exact ih (X + 1) _ _ _ _ _ (by omega) (by omega) (by omega) (by omega) (by omega) (by omega) hk
        · refine Go_iincZ (pc' := 100) (lv' := [.ref _, .ref _, .int _, .int _, .int _, .int _, .int _, .int _, .int _, .int _]) dX0_measure_97 rfl rfl (Nat.le_of_ble_eq_true rfl) rfl rfl ?_
          refine Go_iincZ (pc' := 103) (lv' := [.ref _, .ref _, .int _, .int _, .int _, .int _, .int _, .int _, .int _, .int _]) dX0_measure_100 rfl rfl (Nat.le_of_ble_eq_true rfl) rfl rfl ?_
          refine Go_goto (tgt := 26) dX0_measure_103 (by decide) ?_
          rw [mea_s (P' := (((sap h o X)).natAbs : Int)) (R' := (X - a)) (C' := C) (L' := (L + 1)) (by split <;> omega) (by split <;> omega) (by split <;> omega) (by split <;> omega)] at hk
          exact ih (X + 1) _ _ _ _ _ (by omega) (by omega) (by omega) (by omega) (by omega) (by omega) hk
      · refine Go_aload_n (pc' := 70) dX0_measure_69 rfl rfl rfl ?_
        refine Go_iload (pc' := 72) dX0_measure_70 rfl rfl ?_
        refine Go_iconst (v := iZ 1) (pc' := 73) dX0_measure_72 rfl (by decide) ?_
        refine Go_isubZ (pc' := 74) dX0_measure_73 rfl ?_
        refine Go_callV_i (pc' := 77) (As := [.int _]) (st := []) dX0_measure_74 rfl ok_X2_sampleAt km_RX0_21 CS.o CS.b ⟨_, _, rfl⟩ rfl (Nat.le_of_ble_eq_true rfl) rfl rfl rfl (Nat.le_of_ble_eq_true rfl) (Nat.lt_succ_self _) ?_
        refine s_smpY M (by omega) ?_
        refine ⟨_, rfl, ?_⟩
        refine Go_iload (pc' := 79) dX0_measure_77 rfl rfl ?_
        refine Go_callS_i (pc' := 82) (As := [.int _, .int _]) (st := []) dX0_measure_79 rfl ok_X0_isCrossing km_RX0_30 rfl (Nat.le_of_ble_eq_true rfl) rfl rfl rfl (Nat.le_of_ble_eq_true rfl) (Nat.lt_succ_self _) ?_
        refine Go_iload_n (pc' := 1) dX0_isCrossing_0 rfl rfl rfl ?_
        refine Go_if_leY (tgt := 8) (pc' := 4) dX0_isCrossing_1 (by decide) rfl (by first | exact ⟨i_lo _, i_hi _⟩ | omega) (fun x1 => ?_) (fun x1 => ?_)
        · refine Go_iload_n (pc' := 9) dX0_isCrossing_8 rfl rfl rfl ?_
          refine Go_if_geY (tgt := 20) (pc' := 12) dX0_isCrossing_9 (by decide) rfl (by first | exact ⟨i_lo _, i_hi _⟩ | omega) (fun x9 => ?_) (fun x9 => ?_)
          · refine Go_iconst (v := iZ 0) (pc' := 21) dX0_isCrossing_20 rfl (by decide) ?_
            refine Go_ireturn (ty := .boolean) dX0_isCrossing_21 rfl rfl ?_
            refine ⟨_, rfl, ?_⟩
            refine Go_if_eqY (tgt := 88) (pc' := 85) dX0_measure_82 (by decide) rfl (by first | exact ⟨i_lo _, i_hi _⟩ | omega) (fun c82 => ?_) (fun c82 => by exfalso; omega)
            refine Go_aload_n (pc' := 89) dX0_measure_88 rfl rfl rfl ?_
            refine Go_iload (pc' := 91) dX0_measure_89 rfl rfl ?_
            refine Go_callV_i (pc' := 94) (As := [.int _]) (st := []) dX0_measure_91 rfl ok_X2_isClipped km_RX0_33 CS.o CS.b ⟨_, _, rfl⟩ rfl (Nat.le_of_ble_eq_true rfl) rfl rfl rfl (Nat.le_of_ble_eq_true rfl) (Nat.lt_succ_self _) ?_
            refine s_clpY M (by omega) ?_
            refine ⟨_, rfl, ?_⟩
            refine Go_if_eqb (tgt := 100) (pc' := 97) dX0_measure_94 (by decide) rfl (fun c94 => ?_) (fun c94 => ?_)
            · refine Go_iincZ (pc' := 103) (lv' := [.ref _, .ref _, .int _, .int _, .int _, .int _, .int _, .int _, .int _, .int _]) dX0_measure_100 rfl rfl (Nat.le_of_ble_eq_true rfl) rfl rfl ?_
              refine Go_goto (tgt := 26) dX0_measure_103 (by decide) ?_
              rw [mea_s (P' := (((sap h o X)).natAbs : Int)) (R' := (X - a)) (C' := C) (L' := L) (by split <;> omega) (by split <;> omega) (by split <;> omega) (by split <;> omega)] at hk
              exact ih (X + 1) _ _ _ _ _ (by omega) (by omega) (by omega) (by omega) (by omega) (by omega) hk
            · refine Go_iincZ (pc' := 100) (lv' := [.ref _, .ref _, .int _, .int _, .int _, .int _, .int _, .int _, .int _, .int _]) dX0_measure_97 rfl rfl (Nat.le_of_ble_eq_true rfl) rfl rfl ?_
              refine Go_iincZ (pc' := 103) (lv' := [.ref _, .ref _, .int _, .int _, .int _, .int _, .int _, .int _, .int _, .int _]) dX0_measure_100 rfl rfl (Nat.le_of_ble_eq_true rfl) rfl rfl ?_
              refine Go_goto (tgt := 26) dX0_measure_103 (by decide) ?_
              rw [mea_s (P' := (((sap h o X)).natAbs : Int)) (R' := (X - a)) (C' := C) (L' := (L + 1)) (by split <;> omega) (by split <;> omega) (by split <;> omega) (by split <;> omega)] at hk
              exact ih (X + 1) _ _ _ _ _ (by omega) (by omega) (by omega) (by omega) (by omega) (by omega) hk
          · refine Go_iload_n (pc' := 13) dX0_isCrossing_12 rfl rfl rfl ?_
            refine Go_if_leY (tgt := 20) (pc' := 16) dX0_isCrossing_13 (by decide) rfl (by first | exact ⟨i_lo _, i_hi _⟩ | omega) (fun x13 => ?_) (fun x13 => ?_)
            · refine Go_iconst (v := iZ 0) (pc' := 21) dX0_isCrossing_20 rfl (by decide) ?_
              refine Go_ireturn (ty := .boolean) dX0_isCrossing_21 rfl rfl ?_
              refine ⟨_, rfl, ?_⟩
              refine Go_if_eqY (tgt := 88) (pc' := 85) dX0_measure_82 (by decide) rfl (by first | exact ⟨i_lo _, i_hi _⟩ | omega) (fun c82 => ?_) (fun c82 => by exfalso; omega)
              refine Go_aload_n (pc' := 89) dX0_measure_88 rfl rfl rfl ?_
              refine Go_iload (pc' := 91) dX0_measure_89 rfl rfl ?_
              refine Go_callV_i (pc' := 94) (As := [.int _]) (st := []) dX0_measure_91 rfl ok_X2_isClipped km_RX0_33 CS.o CS.b ⟨_, _, rfl⟩ rfl (Nat.le_of_ble_eq_true rfl) rfl rfl rfl (Nat.le_of_ble_eq_true rfl) (Nat.lt_succ_self _) ?_
              refine s_clpY M (by omega) ?_
              refine ⟨_, rfl, ?_⟩
              refine Go_if_eqb (tgt := 100) (pc' := 97) dX0_measure_94 (by decide) rfl (fun c94 => ?_) (fun c94 => ?_)
              · refine Go_iincZ (pc' := 103) (lv' := [.ref _, .ref _, .int _, .int _, .int _, .int _, .int _, .int _, .int _, .int _]) dX0_measure_100 rfl rfl (Nat.le_of_ble_eq_true rfl) rfl rfl ?_
                refine Go_goto (tgt := 26) dX0_measure_103 (by decide) ?_
                rw [mea_s (P' := (((sap h o X)).natAbs : Int)) (R' := (X - a)) (C' := C) (L' := L) (by split <;> omega) (by split <;> omega) (by split <;> omega) (by split <;> omega)] at hk
                exact ih (X + 1) _ _ _ _ _ (by omega) (by omega) (by omega) (by omega) (by omega) (by omega) hk
              · refine Go_iincZ (pc' := 100) (lv' := [.ref _, .ref _, .int _, .int _, .int _, .int _, .int _, .int _, .int _, .int _]) dX0_measure_97 rfl rfl (Nat.le_of_ble_eq_true rfl) rfl rfl ?_
                refine Go_iincZ (pc' := 103) (lv' := [.ref _, .ref _, .int _, .int _, .int _, .int _, .int _, .int _, .int _, .int _]) dX0_measure_100 rfl rfl (Nat.le_of_ble_eq_true rfl) rfl rfl ?_
                refine Go_goto (tgt := 26) dX0_measure_103 (by decide) ?_
                rw [mea_s (P' := (((sap h o X)).natAbs : Int)) (R' := (X - a)) (C' := C) (L' := (L + 1)) (by split <;> omega) (by split <;> omega) (by split <;> omega) (by split <;> omega)] at hk
                exact ih (X + 1) _ _ _ _ _ (by omega) (by omega) (by omega) (by omega) (by omega) (by omega) hk
            · refine Go_iconst (v := iZ 1) (pc' := 17) dX0_isCrossing_16 rfl (by decide) ?_
              refine Go_goto (tgt := 21) dX0_isCrossing_17 (by decide) ?_
              refine Go_ireturn (ty := .boolean) dX0_isCrossing_21 rfl rfl ?_
              refine ⟨_, rfl, ?_⟩
              refine Go_if_eqY (tgt := 88) (pc' := 85) dX0_measure_82 (by decide) rfl (by first | exact ⟨i_lo _, i_hi _⟩ | omega) (fun c82 => by exfalso; omega) (fun c82 => ?_)
              refine Go_iincZ (pc' := 88) (lv' := [.ref _, .ref _, .int _, .int _, .int _, .int _, .int _, .int _, .int _, .int _]) dX0_measure_85 rfl rfl (Nat.le_of_ble_eq_true rfl) rfl rfl ?_
              refine Go_aload_n (pc' := 89) dX0_measure_88 rfl rfl rfl ?_
              refine Go_iload (pc' := 91) dX0_measure_89 rfl rfl ?_
              refine Go_callV_i (pc' := 94) (As := [.int _]) (st := []) dX0_measure_91 rfl ok_X2_isClipped km_RX0_33 CS.o CS.b ⟨_, _, rfl⟩ rfl (Nat.le_of_ble_eq_true rfl) rfl rfl rfl (Nat.le_of_ble_eq_true rfl) (Nat.lt_succ_self _) ?_
              refine s_clpY M (by omega) ?_
              refine ⟨_, rfl, ?_⟩
              refine Go_if_eqb (tgt := 100) (pc' := 97) dX0_measure_94 (by decide) rfl (fun c94 => ?_) (fun c94 => ?_)
              · refine Go_iincZ (pc' := 103) (lv' := [.ref _, .ref _, .int _, .int _, .int _, .int _, .int _, .int _, .int _, .int _]) dX0_measure_100 rfl rfl (Nat.le_of_ble_eq_true rfl) rfl rfl ?_
                refine Go_goto (tgt := 26) dX0_measure_103 (by decide) ?_
                rw [mea_s (P' := (((sap h o X)).natAbs : Int)) (R' := (X - a)) (C' := (C + 1)) (L' := L) (by split <;> omega) (by split <;> omega) (by split <;> omega) (by split <;> omega)] at hk
                exact ih (X + 1) _ _ _ _ _ (by omega) (by omega) (by omega) (by omega) (by omega) (by omega) hk
              · refine Go_iincZ (pc' := 100) (lv' := [.ref _, .ref _, .int _, .int _, .int _, .int _, .int _, .int _, .int _, .int _]) dX0_measure_97 rfl rfl (Nat.le_of_ble_eq_true rfl) rfl rfl ?_
                refine Go_iincZ (pc' := 103) (lv' := [.ref _, .ref _, .int _, .int _, .int _, .int _, .int _, .int _, .int _, .int _]) dX0_measure_100 rfl rfl (Nat.le_of_ble_eq_true rfl) rfl rfl ?_
                refine Go_goto (tgt := 26) dX0_measure_103 (by decide) ?_
                rw [mea_s (P' := (((sap h o X)).natAbs : Int)) (R' := (X - a)) (C' := (C + 1)) (L' := (L + 1)) (by split <;> omega) (by split <;> omega) (by split <;> omega) (by split <;> omega)] at hk
                exact ih (X + 1) _ _ _ _ _ (by omega) (by omega) (by omega) (by omega) (by omega) (by omega) hk
        · refine Go_iload_n (pc' := 5) dX0_isCrossing_4 rfl rfl rfl ?_
          refine Go_if_ltY (tgt := 16) (pc' := 8) dX0_isCrossing_5 (by decide) rfl (by first | exact ⟨i_lo _, i_hi _⟩ | omega) (fun x5 => ?_) (fun x5 => ?_)
          · refine Go_iconst (v := iZ 1) (pc' := 17) dX0_isCrossing_16 rfl (by decide) ?_
            refine Go_goto (tgt := 21) dX0_isCrossing_17 (by decide) ?_
            refine Go_ireturn (ty := .boolean) dX0_isCrossing_21 rfl rfl ?_
            refine ⟨_, rfl, ?_⟩
            refine Go_if_eqY (tgt := 88) (pc' := 85) dX0_measure_82 (by decide) rfl (by first | exact ⟨i_lo _, i_hi _⟩ | omega) (fun c82 => by exfalso; omega) (fun c82 => ?_)
            refine Go_iincZ (pc' := 88) (lv' := [.ref _, .ref _, .int _, .int _, .int _, .int _, .int _, .int _, .int _, .int _]) dX0_measure_85 rfl rfl (Nat.le_of_ble_eq_true rfl) rfl rfl ?_
            refine Go_aload_n (pc' := 89) dX0_measure_88 rfl rfl rfl ?_
            refine Go_iload (pc' := 91) dX0_measure_89 rfl rfl ?_
            refine Go_callV_i (pc' := 94) (As := [.int _]) (st := []) dX0_measure_91 rfl ok_X2_isClipped km_RX0_33 CS.o CS.b ⟨_, _, rfl⟩ rfl (Nat.le_of_ble_eq_true rfl) rfl rfl rfl (Nat.le_of_ble_eq_true rfl) (Nat.lt_succ_self _) ?_
            refine s_clpY M (by omega) ?_
            refine ⟨_, rfl, ?_⟩
            refine Go_if_eqb (tgt := 100) (pc' := 97) dX0_measure_94 (by decide) rfl (fun c94 => ?_) (fun c94 => ?_)
            · refine Go_iincZ (pc' := 103) (lv' := [.ref _, .ref _, .int _, .int _, .int _, .int _, .int _, .int _, .int _, .int _]) dX0_measure_100 rfl rfl (Nat.le_of_ble_eq_true rfl) rfl rfl ?_
              refine Go_goto (tgt := 26) dX0_measure_103 (by decide) ?_
              rw [mea_s (P' := (((sap h o X)).natAbs : Int)) (R' := (X - a)) (C' := (C + 1)) (L' := L) (by split <;> omega) (by split <;> omega) (by split <;> omega) (by split <;> omega)] at hk
              exact ih (X + 1) _ _ _ _ _ (by omega) (by omega) (by omega) (by omega) (by omega) (by omega) hk
            · refine Go_iincZ (pc' := 100) (lv' := [.ref _, .ref _, .int _, .int _, .int _, .int _, .int _, .int _, .int _, .int _]) dX0_measure_97 rfl rfl (Nat.le_of_ble_eq_true rfl) rfl rfl ?_
              refine Go_iincZ (pc' := 103) (lv' := [.ref _, .ref _, .int _, .int _, .int _, .int _, .int _, .int _, .int _, .int _]) dX0_measure_100 rfl rfl (Nat.le_of_ble_eq_true rfl) rfl rfl ?_
              refine Go_goto (tgt := 26) dX0_measure_103 (by decide) ?_
              rw [mea_s (P' := (((sap h o X)).natAbs : Int)) (R' := (X - a)) (C' := (C + 1)) (L' := (L + 1)) (by split <;> omega) (by split <;> omega) (by split <;> omega) (by split <;> omega)] at hk
              exact ih (X + 1) _ _ _ _ _ (by omega) (by omega) (by omega) (by omega) (by omega) (by omega) hk
          · refine Go_iload_n (pc' := 9) dX0_isCrossing_8 rfl rfl rfl ?_
            refine Go_if_geY (tgt := 20) (pc' := 12) dX0_isCrossing_9 (by decide) rfl (by first | exact ⟨i_lo _, i_hi _⟩ | omega) (fun x9 => ?_) (fun x9 => ?_)
            · refine Go_iconst (v := iZ 0) (pc' := 21) dX0_isCrossing_20 rfl (by decide) ?_
              refine Go_ireturn (ty := .boolean) dX0_isCrossing_21 rfl rfl ?_
              refine ⟨_, rfl, ?_⟩
              refine Go_if_eqY (tgt := 88) (pc' := 85) dX0_measure_82 (by decide) rfl (by first | exact ⟨i_lo _, i_hi _⟩ | omega) (fun c82 => ?_) (fun c82 => by exfalso; omega)
              refine Go_aload_n (pc' := 89) dX0_measure_88 rfl rfl rfl ?_
              refine Go_iload (pc' := 91) dX0_measure_89 rfl rfl ?_
              refine Go_callV_i (pc' := 94) (As := [.int _]) (st := []) dX0_measure_91 rfl ok_X2_isClipped km_RX0_33 CS.o CS.b ⟨_, _, rfl⟩ rfl (Nat.le_of_ble_eq_true rfl) rfl rfl rfl (Nat.le_of_ble_eq_true rfl) (Nat.lt_succ_self _) ?_
              refine s_clpY M (by omega) ?_
              refine ⟨_, rfl, ?_⟩
              refine Go_if_eqb (tgt := 100) (pc' := 97) dX0_measure_94 (by decide) rfl (fun c94 => ?_) (fun c94 => ?_)
              · refine Go_iincZ (pc' := 103) (lv' := [.ref _, .ref _, .int _, .int _, .int _, .int _, .int _, .int _, .int _, .int _]) dX0_measure_100 rfl rfl (Nat.le_of_ble_eq_true rfl) rfl rfl ?_
                refine Go_goto (tgt := 26) dX0_measure_103 (by decide) ?_
                rw [mea_s (P' := (((sap h o X)).natAbs : Int)) (R' := (X - a)) (C' := C) (L' := L) (by split <;> omega) (by split <;> omega) (by split <;> omega) (by split <;> omega)] at hk
                exact ih (X + 1) _ _ _ _ _ (by omega) (by omega) (by omega) (by omega) (by omega) (by omega) hk
              · refine Go_iincZ (pc' := 100) (lv' := [.ref _, .ref _, .int _, .int _, .int _, .int _, .int _, .int _, .int _, .int _]) dX0_measure_97 rfl rfl (Nat.le_of_ble_eq_true rfl) rfl rfl ?_
                refine Go_iincZ (pc' := 103) (lv' := [.ref _, .ref _, .int _, .int _, .int _, .int _, .int _, .int _, .int _, .int _]) dX0_measure_100 rfl rfl (Nat.le_of_ble_eq_true rfl) rfl rfl ?_
                refine Go_goto (tgt := 26) dX0_measure_103 (by decide) ?_
                rw [mea_s (P' := (((sap h o X)).natAbs : Int)) (R' := (X - a)) (C' := C) (L' := (L + 1)) (by split <;> omega) (by split <;> omega) (by split <;> omega) (by split <;> omega)] at hk
                exact ih (X + 1) _ _ _ _ _ (by omega) (by omega) (by omega) (by omega) (by omega) (by omega) hk
            · refine Go_iload_n (pc' := 13) dX0_isCrossing_12 rfl rfl rfl ?_
              refine Go_if_leY (tgt := 20) (pc' := 16) dX0_isCrossing_13 (by decide) rfl (by first | exact ⟨i_lo _, i_hi _⟩ | omega) (fun x13 => ?_) (fun x13 => ?_)
              · refine Go_iconst (v := iZ 0) (pc' := 21) dX0_isCrossing_20 rfl (by decide) ?_
                refine Go_ireturn (ty := .boolean) dX0_isCrossing_21 rfl rfl ?_
                refine ⟨_, rfl, ?_⟩
                refine Go_if_eqY (tgt := 88) (pc' := 85) dX0_measure_82 (by decide) rfl (by first | exact ⟨i_lo _, i_hi _⟩ | omega) (fun c82 => ?_) (fun c82 => by exfalso; omega)
                refine Go_aload_n (pc' := 89) dX0_measure_88 rfl rfl rfl ?_
                refine Go_iload (pc' := 91) dX0_measure_89 rfl rfl ?_
                refine Go_callV_i (pc' := 94) (As := [.int _]) (st := []) dX0_measure_91 rfl ok_X2_isClipped km_RX0_33 CS.o CS.b ⟨_, _, rfl⟩ rfl (Nat.le_of_ble_eq_true rfl) rfl rfl rfl (Nat.le_of_ble_eq_true rfl) (Nat.lt_succ_self _) ?_
                refine s_clpY M (by omega) ?_
                refine ⟨_, rfl, ?_⟩
                refine Go_if_eqb (tgt := 100) (pc' := 97) dX0_measure_94 (by decide) rfl (fun c94 => ?_) (fun c94 => ?_)
                · refine Go_iincZ (pc' := 103) (lv' := [.ref _, .ref _, .int _, .int _, .int _, .int _, .int _, .int _, .int _, .int _]) dX0_measure_100 rfl rfl (Nat.le_of_ble_eq_true rfl) rfl rfl ?_
                  refine Go_goto (tgt := 26) dX0_measure_103 (by decide) ?_
                  rw [mea_s (P' := (((sap h o X)).natAbs : Int)) (R' := (X - a)) (C' := C) (L' := L) (by split <;> omega) (by split <;> omega) (by split <;> omega) (by split <;> omega)] at hk
                  exact ih (X + 1) _ _ _ _ _ (by omega) (by omega) (by omega) (by omega) (by omega) (by omega) hk
                · refine Go_iincZ (pc' := 100) (lv' := [.ref _, .ref _, .int _, .int _, .int _, .int _, .int _, .int _, .int _, .int _]) dX0_measure_97 rfl rfl (Nat.le_of_ble_eq_true rfl) rfl rfl ?_
                  refine Go_iincZ (pc' := 103) (lv' := [.ref _, .ref _, .int _, .int _, .int _, .int _, .int _, .int _, .int _, .int _]) dX0_measure_100 rfl rfl (Nat.le_of_ble_eq_true rfl) rfl rfl ?_
                  refine Go_goto (tgt := 26) dX0_measure_103 (by decide) ?_
                  rw [mea_s (P' := (((sap h o X)).natAbs : Int)) (R' := (X - a)) (C' := C) (L' := (L + 1)) (by split <;> omega) (by split <;> omega) (by split <;> omega) (by split <;> omega)] at hk
                  exact ih (X + 1) _ _ _ _ _ (by omega) (by omega) (by omega) (by omega) (by omega) (by omega) hk
              · refine Go_iconst (v := iZ 1) (pc' := 17) dX0_isCrossing_16 rfl (by decide) ?_
                refine Go_goto (tgt := 21) dX0_isCrossing_17 (by decide) ?_
                refine Go_ireturn (ty := .boolean) dX0_isCrossing_21 rfl rfl ?_
                refine ⟨_, rfl, ?_⟩
                refine Go_if_eqY (tgt := 88) (pc' := 85) dX0_measure_82 (by decide) rfl (by first | exact ⟨i_lo _, i_hi _⟩ | omega) (fun c82 => by exfalso; omega) (fun c82 => ?_)
                refine Go_iincZ (pc' := 88) (lv' := [.ref _, .ref _, .int _, .int _, .int _, .int _, .int _, .int _, .int _, .int _]) dX0_measure_85 rfl rfl (Nat.le_of_ble_eq_true rfl) rfl rfl ?_
                refine Go_aload_n (pc' := 89) dX0_measure_88 rfl rfl rfl ?_
                refine Go_iload (pc' := 91) dX0_measure_89 rfl rfl ?_
                refine Go_callV_i (pc' := 94) (As := [.int _]) (st := []) dX0_measure_91 rfl ok_X2_isClipped km_RX0_33 CS.o CS.b ⟨_, _, rfl⟩ rfl (Nat.le_of_ble_eq_true rfl) rfl rfl rfl (Nat.le_of_ble_eq_true rfl) (Nat.lt_succ_self _) ?_
                refine s_clpY M (by omega) ?_
                refine ⟨_, rfl, ?_⟩
                refine Go_if_eqb (tgt := 100) (pc' := 97) dX0_measure_94 (by decide) rfl (fun c94 => ?_) (fun c94 => ?_)
                · refine Go_iincZ (pc' := 103) (lv' := [.ref _, .ref _, .int _, .int _, .int _, .int _, .int _, .int _, .int _, .int _]) dX0_measure_100 rfl rfl (Nat.le_of_ble_eq_true rfl) rfl rfl ?_
                  refine Go_goto (tgt := 26) dX0_measure_103 (by decide) ?_
                  rw [mea_s (P' := (((sap h o X)).natAbs : Int)) (R' := (X - a)) (C' := (C + 1)) (L' := L) (by split <;> omega) (by split <;> omega) (by split <;> omega) (by split <;> omega)] at hk
                  exact ih (X + 1) _ _ _ _ _ (by omega) (by omega) (by omega) (by omega) (by omega) (by omega) hk
                · refine Go_iincZ (pc' := 100) (lv' := [.ref _, .ref _, .int _, .int _, .int _, .int _, .int _, .int _, .int _, .int _]) dX0_measure_97 rfl rfl (Nat.le_of_ble_eq_true rfl) rfl rfl ?_
                  refine Go_iincZ (pc' := 103) (lv' := [.ref _, .ref _, .int _, .int _, .int _, .int _, .int _, .int _, .int _, .int _]) dX0_measure_100 rfl rfl (Nat.le_of_ble_eq_true rfl) rfl rfl ?_
                  refine Go_goto (tgt := 26) dX0_measure_103 (by decide) ?_
                  rw [mea_s (P' := (((sap h o X)).natAbs : Int)) (R' := (X - a)) (C' := (C + 1)) (L' := (L + 1)) (by split <;> omega) (by split <;> omega) (by split <;> omega) (by split <;> omega)] at hk
                  exact ih (X + 1) _ _ _ _ _ (by omega) (by omega) (by omega) (by omega) (by omega) (by omega) hk
set_option maxRecDepth 20000 in
set_option maxHeartbeats 1000000 in
theorem s_mea {G : GC} {d mc ms : Nat} {h : HS} {K : Option Value → HS → Prop} {j o n : Nat} {a b : Int} (S : Shp h) (M : Smp h j o n) (ha : -2147483648 ≤ a ∧ a < 2147483648) (hb : -2147483648 ≤ b ∧ b < 2147483648) (w : wh h o n a b) (hk : K (some (.int (iZ 1))) (h70 h a b (ME h o a b))) : Go G (d + 3) mc ms M_X0_measure 0 [.ref 69, .ref o, .int (iZ a), .int (iZ b), un, un, un, un, un, un] [] h K := by
  have CS := M.2.1
  have hn := M.n
  have hj6 := M.j
  have hq0 := CS.1
  have w1 := w.1
  refine Go_aload_n (pc' := 1) dX0_measure_0 rfl rfl rfl ?_
  refine Go_iload_n (pc' := 2) dX0_measure_1 rfl rfl rfl ?_
  refine Go_iload_n (pc' := 3) dX0_measure_2 rfl rfl rfl ?_
  refine Go_callV_i (pc' := 6) (As := [.int _, .int _]) (st := []) dX0_measure_3 rfl ok_X2_isWhole km_RX0_15 CS.o CS.b ⟨_, _, rfl⟩ rfl (Nat.le_of_ble_eq_true rfl) rfl rfl rfl (Nat.le_of_ble_eq_true rfl) (Nat.lt_succ_self _) ?_
  refine s_wh M (by omega) (by omega) ?_
  refine ⟨_, rfl, ?_⟩
  refine Go_if_neb (tgt := 11) (pc' := 9) dX0_measure_6 (by decide) rfl (fun c6 => ?_) (fun c6 => by exact absurd w c6)
  refine Go_iconst (v := iZ (-1)) (pc' := 12) dX0_measure_11 rfl (by decide) ?_
  refine Go_istore (pc' := 14) (lv' := [.ref _, .ref _, .int _, .int _, .int _, un, un, un, un, un]) dX0_measure_12 rfl (Nat.le_of_ble_eq_true rfl) rfl rfl ?_
  refine Go_iconst (v := iZ 0) (pc' := 15) dX0_measure_14 rfl (by decide) ?_
  refine Go_istore (pc' := 17) (lv' := [.ref _, .ref _, .int _, .int _, .int _, .int _, un, un, un, un]) dX0_measure_15 rfl (Nat.le_of_ble_eq_true rfl) rfl rfl ?_
  refine Go_iconst (v := iZ 0) (pc' := 18) dX0_measure_17 rfl (by decide) ?_
  refine Go_istore (pc' := 20) (lv' := [.ref _, .ref _, .int _, .int _, .int _, .int _, .int _, un, un, un]) dX0_measure_18 rfl (Nat.le_of_ble_eq_true rfl) rfl rfl ?_
  refine Go_iconst (v := iZ 0) (pc' := 21) dX0_measure_20 rfl (by decide) ?_
  refine Go_istore (pc' := 23) (lv' := [.ref _, .ref _, .int _, .int _, .int _, .int _, .int _, .int _, un, un]) dX0_measure_21 rfl (Nat.le_of_ble_eq_true rfl) rfl rfl ?_
  refine Go_iload_n (pc' := 24) dX0_measure_23 rfl rfl rfl ?_
  refine Go_istore (pc' := 26) (lv' := [.ref _, .ref _, .int _, .int _, .int _, .int _, .int _, .int _, .int _, un]) dX0_measure_24 rfl (Nat.le_of_ble_eq_true rfl) rfl rfl ?_
  refine me_loop S M (by omega) (wh_all w) (b + 1 - a).toNat a _ _ _ _ _ (by omega) (by omega) (by omega) (by omega) (by omega) (by omega) ?_
  obtain ⟨m, hm⟩ : ∃ m, (b + 1 - a).toNat = m + 1 := ⟨(b - a).toNat, by omega⟩
  unfold ME at hk
  rw [hm] at hk ⊢
  rw [mea_0]; exact hk
set_option maxRecDepth 20000 in
set_option maxHeartbeats 1000000 in
theorem s_meaN {G : GC} {d mc ms : Nat} {h : HS} {K : Option Value → HS → Prop} {j o n : Nat} {a b : Int} (S : Shp h) (M : Smp h j o n) (ha : -2147483648 ≤ a ∧ a < 2147483648) (hb : -2147483648 ≤ b ∧ b < 2147483648) (w : ¬ wh h o n a b) (hk : K (some (.int (iZ 0))) h) : Go G (d + 3) mc ms M_X0_measure 0 [.ref 69, .ref o, .int (iZ a), .int (iZ b), un, un, un, un, un, un] [] h K := by
  have CS := M.2.1
  have hn := M.n
  have hj6 := M.j
  have hq0 := CS.1
  refine Go_aload_n (pc' := 1) dX0_measure_0 rfl rfl rfl ?_
  refine Go_iload_n (pc' := 2) dX0_measure_1 rfl rfl rfl ?_
  refine Go_iload_n (pc' := 3) dX0_measure_2 rfl rfl rfl ?_
  refine Go_callV_i (pc' := 6) (As := [.int _, .int _]) (st := []) dX0_measure_3 rfl ok_X2_isWhole km_RX0_15 CS.o CS.b ⟨_, _, rfl⟩ rfl (Nat.le_of_ble_eq_true rfl) rfl rfl rfl (Nat.le_of_ble_eq_true rfl) (Nat.lt_succ_self _) ?_
  refine s_wh M (by omega) (by omega) ?_
  refine ⟨_, rfl, ?_⟩
  refine Go_if_neb (tgt := 11) (pc' := 9) dX0_measure_6 (by decide) rfl (fun c6 => by exact absurd c6 w) (fun c6 => ?_)
  refine Go_iconst (v := iZ 0) (pc' := 10) dX0_measure_9 rfl (by decide) ?_
  refine Go_ireturn (ty := .boolean) dX0_measure_10 rfl rfl ?_
  exact hk
set_option maxRecDepth 20000 in
set_option maxHeartbeats 1000000 in
theorem ib_loop {G : GC} {d mc ms : Nat} {h : HS} {K : Option Value → HS → Prop} {j o n : Nat} {a b : Int} (S : Shp h) (M : Smp h j o n) (ha : 0 ≤ a ∧ b < n) : ∀ (m : Nat) (X : Int), X + m = b + 1 → a ≤ X → K (some (.int (b2i (all (nmB h o) m X = true)))) h → Go G (d + 1) mc ms M_X12_isBurst 45 [.ref 99, .int (iZ (j : Int)), .int (iZ a), .int (iZ b), .int (iZ X)] [] h K := by
  have CS := M.2.1
  have hn := M.n
  have hj6 := M.j
  have hq0 := CS.1
  intro m
  induction m with
  | zero =>
    intro X hm hx hk
    refine Go_iload (pc' := 47) dX12_isBurst_45 rfl rfl ?_
    refine Go_iload_n (pc' := 48) dX12_isBurst_47 rfl rfl rfl ?_
    refine Go_icmp_gtY (tgt := 71) (pc' := 51) dX12_isBurst_48 (by decide) rfl (by first | exact ⟨i_lo _, i_hi _⟩ | omega) (by first | exact ⟨i_lo _, i_hi _⟩ | omega) (fun c48 => ?_) (fun c48 => by exfalso; omega)
    refine Go_iconst (v := iZ 1) (pc' := 72) dX12_isBurst_71 rfl (by decide) ?_
    refine Go_ireturn (ty := .boolean) dX12_isBurst_72 rfl rfl ?_
    exact hk
  | succ m ih =>
    intro X hm hx hk
    have s0 := sap_ok M (X := X) (by omega)
    refine Go_iload (pc' := 47) dX12_isBurst_45 rfl rfl ?_
    refine Go_iload_n (pc' := 48) dX12_isBurst_47 rfl rfl rfl ?_
    refine Go_icmp_gtY (tgt := 71) (pc' := 51) dX12_isBurst_48 (by decide) rfl (by first | exact ⟨i_lo _, i_hi _⟩ | omega) (by first | exact ⟨i_lo _, i_hi _⟩ | omega) (fun c48 => by exfalso; omega) (fun c48 => ?_)
    refine Go_aload_n (pc' := 52) dX12_isBurst_51 rfl rfl rfl ?_
    refine Go_iload_n (pc' := 53) dX12_isBurst_52 rfl rfl rfl ?_
    refine Go_iload (pc' := 55) dX12_isBurst_53 rfl rfl ?_
    refine Go_callV_i (pc' := 58) (As := [.int _, .int _]) (st := []) dX12_isBurst_55 rfl ok_X12_sample km_RX12_163 (S.o 99 rfl rfl rfl) (S.b 99 rfl rfl) ⟨_, _, rfl⟩ rfl (Nat.le_of_ble_eq_true rfl) rfl rfl rfl (Nat.le_of_ble_eq_true rfl) (Nat.lt_succ_self _) ?_
    refine s_smpMY S M (by omega) ?_
    refine ⟨_, rfl, ?_⟩
    refine Go_ldcZ (X := (-1000000000)) (pc' := 60) dX12_isBurst_58 rfl kn_RX12_162 (by decide) ?_
    refine Go_icmp_neY (tgt := 65) (pc' := 63) dX12_isBurst_60 (by decide) rfl (by first | exact ⟨i_lo _, i_hi _⟩ | omega) (by first | exact ⟨i_lo _, i_hi _⟩ | omega) (fun c60 => ?_) (fun c60 => ?_)
    · refine Go_iincZ (pc' := 68) (lv' := [.ref _, .int _, .int _, .int _, .int _]) dX12_isBurst_65 rfl rfl (Nat.le_of_ble_eq_true rfl) rfl rfl ?_
      refine Go_goto (tgt := 45) dX12_isBurst_68 (by decide) ?_
      rw [all_t (by unfold nmB; simpa using c60)] at hk
      exact ih _ (by omega) (by omega) hk
    · refine Go_iconst (v := iZ 0) (pc' := 64) dX12_isBurst_63 rfl (by decide) ?_
      refine Go_ireturn (ty := .boolean) dX12_isBurst_64 rfl rfl ?_
      rw [all_f (by unfold nmB; simpa using c60)] at hk; exact hk
set_option maxRecDepth 20000 in
set_option maxHeartbeats 1000000 in
theorem s_ib {G : GC} {d mc ms : Nat} {h : HS} {K : Option Value → HS → Prop} {j o n : Nat} {nc : Nat} {a b : Int} (S : Shp h) (M : Smp h j o n) (hj : j < nc) (hnc : nc ≤ 6) (ec0 : vi h 99 0 = iZ (nc : Int)) (ha : -2147483648 ≤ a ∧ a < 2147483648) (hb : -2147483648 ≤ b ∧ b < 2147483648) (hk : K (some (.int (b2i (wh h o n a b)))) h) : Go G (d + 2) mc ms M_X12_isBurst 0 [.ref 99, .int (iZ (j : Int)), .int (iZ a), .int (iZ b), un] [] h K := by
  have CS := M.2.1
  have hn := M.n
  have hj6 := M.j
  have hq0 := CS.1
  refine Go_aload_n (pc' := 1) dX12_isBurst_0 rfl rfl rfl ?_
  refine Go_iload_n (pc' := 2) dX12_isBurst_1 rfl rfl rfl ?_
  refine Go_callV_i (pc' := 5) (As := [.int _]) (st := []) dX12_isBurst_2 rfl ok_X12_isCellar km_RX12_158 (S.o 99 rfl rfl rfl) (S.b 99 rfl rfl) ⟨_, _, rfl⟩ rfl (Nat.le_of_ble_eq_true rfl) rfl rfl rfl (Nat.le_of_ble_eq_true rfl) (Nat.lt_succ_self _) ?_
  refine Go_iload_n (pc' := 1) dX12_isCellar_0 rfl rfl rfl ?_
  refine Go_iconst (v := iZ 0) (pc' := 2) dX12_isCellar_1 rfl (by decide) ?_
  refine Go_aload_n (pc' := 3) dX12_isCellar_2 rfl rfl rfl ?_
  refine Go_getIv (v := (iZ (nc : Int))) (pc' := 6) dX12_isCellar_3 rfl kf_RX12_151 (by decide) (by decide) rfl (S.b 99 rfl rfl) (S.o 99 rfl rfl rfl) (ec0) ?_
  refine Go_iconst (v := iZ 1) (pc' := 7) dX12_isCellar_6 rfl (by decide) ?_
  refine Go_isubZ (pc' := 8) dX12_isCellar_7 rfl ?_
  refine Go_callS_i (pc' := 11) (As := [.int _, .int _, .int _]) (st := []) dX12_isCellar_8 rfl ok_X12_isIn km_RX12_147 rfl (Nat.le_of_ble_eq_true rfl) rfl rfl rfl (Nat.le_of_ble_eq_true rfl) (Nat.lt_succ_self _) ?_
  refine s_isInY (by first | exact ⟨i_lo _, i_hi _⟩ | omega) (by first | exact ⟨i_lo _, i_hi _⟩ | omega) (by first | exact ⟨i_lo _, i_hi _⟩ | omega) ?_
  refine ⟨_, rfl, ?_⟩
  refine Go_ireturn (ty := .boolean) dX12_isCellar_11 rfl b2i_nb ?_
  refine ⟨_, rfl, ?_⟩
  refine Go_if_eqb (tgt := 40) (pc' := 8) dX12_isBurst_5 (by decide) rfl (fun c5 => by exfalso; omega) (fun c5 => ?_)
  refine Go_iload_n (pc' := 9) dX12_isBurst_8 rfl rfl rfl ?_
  refine Go_iconst (v := iZ 0) (pc' := 10) dX12_isBurst_9 rfl (by decide) ?_
  refine Go_aload_n (pc' := 11) dX12_isBurst_10 rfl rfl rfl ?_
  refine Go_getRs (pc' := 14) dX12_isBurst_11 rfl kf_RX12_31 (by decide) (by decide) rfl (S.b 99 rfl rfl) (S.o 99 rfl rfl rfl) (S.r 99 8 rfl rfl rfl) ?_
  refine Go_iload_n (pc' := 15) dX12_isBurst_14 rfl rfl rfl ?_
  refine Go_ialoadZ (n := 6) (k := j) (v := (iZ (n : Int))) (pc' := 16) dX12_isBurst_15 rfl (S.b 107 rfl rfl) (S.k 107 rfl rfl rfl) rfl (by omega) (by decide) (M.e107) ?_
  refine Go_iconst (v := iZ 1) (pc' := 17) dX12_isBurst_16 rfl (by decide) ?_
  refine Go_isubZ (pc' := 18) dX12_isBurst_17 rfl ?_
  refine Go_callS_i (pc' := 21) (As := [.int _, .int _, .int _]) (st := []) dX12_isBurst_18 rfl ok_X12_isIn km_RX12_147 rfl (Nat.le_of_ble_eq_true rfl) rfl rfl rfl (Nat.le_of_ble_eq_true rfl) (Nat.lt_succ_self _) ?_
  refine s_isInY (by first | exact ⟨i_lo _, i_hi _⟩ | omega) (by first | exact ⟨i_lo _, i_hi _⟩ | omega) (by first | exact ⟨i_lo _, i_hi _⟩ | omega) ?_
  refine ⟨_, rfl, ?_⟩
  refine Go_if_eqb (tgt := 40) (pc' := 24) dX12_isBurst_21 (by decide) rfl (fun c21 => ?_) (fun c21 => ?_)
  · refine Go_iconst (v := iZ 0) (pc' := 41) dX12_isBurst_40 rfl (by decide) ?_
    refine Go_ireturn (ty := .boolean) dX12_isBurst_41 rfl rfl ?_
    rw [b2i_f (fun z : wh h o n a b => by have := z.1; omega)] at hk; exact hk
  · refine Go_iload_n (pc' := 25) dX12_isBurst_24 rfl rfl rfl ?_
    refine Go_iload_n (pc' := 26) dX12_isBurst_25 rfl rfl rfl ?_
    refine Go_aload_n (pc' := 27) dX12_isBurst_26 rfl rfl rfl ?_
    refine Go_getRs (pc' := 30) dX12_isBurst_27 rfl kf_RX12_31 (by decide) (by decide) rfl (S.b 99 rfl rfl) (S.o 99 rfl rfl rfl) (S.r 99 8 rfl rfl rfl) ?_
    refine Go_iload_n (pc' := 31) dX12_isBurst_30 rfl rfl rfl ?_
    refine Go_ialoadZ (n := 6) (k := j) (v := (iZ (n : Int))) (pc' := 32) dX12_isBurst_31 rfl (S.b 107 rfl rfl) (S.k 107 rfl rfl rfl) rfl (by omega) (by decide) (M.e107) ?_
    refine Go_iconst (v := iZ 1) (pc' := 33) dX12_isBurst_32 rfl (by decide) ?_
    refine Go_isubZ (pc' := 34) dX12_isBurst_33 rfl ?_
    refine Go_callS_i (pc' := 37) (As := [.int _, .int _, .int _]) (st := []) dX12_isBurst_34 rfl ok_X12_isIn km_RX12_147 rfl (Nat.le_of_ble_eq_true rfl) rfl rfl rfl (Nat.le_of_ble_eq_true rfl) (Nat.lt_succ_self _) ?_
    refine s_isInY (by first | exact ⟨i_lo _, i_hi _⟩ | omega) (by first | exact ⟨i_lo _, i_hi _⟩ | omega) (by first | exact ⟨i_lo _, i_hi _⟩ | omega) ?_
    refine ⟨_, rfl, ?_⟩
    refine Go_if_neb (tgt := 42) (pc' := 40) dX12_isBurst_37 (by decide) rfl (fun c37 => ?_) (fun c37 => ?_)
    · refine Go_iload_n (pc' := 43) dX12_isBurst_42 rfl rfl rfl ?_
      refine Go_istore (pc' := 45) (lv' := [.ref _, .int _, .int _, .int _, .int _]) dX12_isBurst_43 rfl (Nat.le_of_ble_eq_true rfl) rfl rfl ?_
      refine ib_loop S M (by omega) (b + 1 - a).toNat a (by omega) (by omega) ?_
      rw [b2i_congr (show wh h o n a b ↔ all (nmB h o) (b + 1 - a).toNat a = true from ⟨fun z => z.2, fun z => ⟨by omega, z⟩⟩)] at hk
      exact hk
    · refine Go_iconst (v := iZ 0) (pc' := 41) dX12_isBurst_40 rfl (by decide) ?_
      refine Go_ireturn (ty := .boolean) dX12_isBurst_41 rfl rfl ?_
      rw [b2i_f (fun z : wh h o n a b => by have := z.1; omega)] at hk; exact hk
set_option maxRecDepth 20000 in
set_option maxHeartbeats 1000000 in
theorem s_ibN {G : GC} {d mc ms : Nat} {h : HS} {K : Option Value → HS → Prop} {nc : Nat} {c a b : Int} (S : Shp h) (hj : ¬ (0 ≤ c ∧ c < nc)) (hnc : nc ≤ 6) (ec0 : vi h 99 0 = iZ (nc : Int)) (hc : -2147483648 ≤ c ∧ c < 2147483648) (hk : K (some (.int (iZ 0))) h) : Go G (d + 2) mc ms M_X12_isBurst 0 [.ref 99, .int (iZ c), .int (iZ a), .int (iZ b), un] [] h K := by
  refine Go_aload_n (pc' := 1) dX12_isBurst_0 rfl rfl rfl ?_
  refine Go_iload_n (pc' := 2) dX12_isBurst_1 rfl rfl rfl ?_
  refine Go_callV_i (pc' := 5) (As := [.int _]) (st := []) dX12_isBurst_2 rfl ok_X12_isCellar km_RX12_158 (S.o 99 rfl rfl rfl) (S.b 99 rfl rfl) ⟨_, _, rfl⟩ rfl (Nat.le_of_ble_eq_true rfl) rfl rfl rfl (Nat.le_of_ble_eq_true rfl) (Nat.lt_succ_self _) ?_
  refine Go_iload_n (pc' := 1) dX12_isCellar_0 rfl rfl rfl ?_
  refine Go_iconst (v := iZ 0) (pc' := 2) dX12_isCellar_1 rfl (by decide) ?_
  refine Go_aload_n (pc' := 3) dX12_isCellar_2 rfl rfl rfl ?_
  refine Go_getIv (v := (iZ (nc : Int))) (pc' := 6) dX12_isCellar_3 rfl kf_RX12_151 (by decide) (by decide) rfl (S.b 99 rfl rfl) (S.o 99 rfl rfl rfl) (ec0) ?_
  refine Go_iconst (v := iZ 1) (pc' := 7) dX12_isCellar_6 rfl (by decide) ?_
  refine Go_isubZ (pc' := 8) dX12_isCellar_7 rfl ?_
  refine Go_callS_i (pc' := 11) (As := [.int _, .int _, .int _]) (st := []) dX12_isCellar_8 rfl ok_X12_isIn km_RX12_147 rfl (Nat.le_of_ble_eq_true rfl) rfl rfl rfl (Nat.le_of_ble_eq_true rfl) (Nat.lt_succ_self _) ?_
  refine s_isInY (by first | exact ⟨i_lo _, i_hi _⟩ | omega) (by first | exact ⟨i_lo _, i_hi _⟩ | omega) (by first | exact ⟨i_lo _, i_hi _⟩ | omega) ?_
  refine ⟨_, rfl, ?_⟩
  refine Go_ireturn (ty := .boolean) dX12_isCellar_11 rfl b2i_nb ?_
  refine ⟨_, rfl, ?_⟩
  refine Go_if_eqb (tgt := 40) (pc' := 8) dX12_isBurst_5 (by decide) rfl (fun c5 => ?_) (fun c5 => by exfalso; omega)
  refine Go_iconst (v := iZ 0) (pc' := 41) dX12_isBurst_40 rfl (by decide) ?_
  refine Go_ireturn (ty := .boolean) dX12_isBurst_41 rfl rfl ?_
  exact hk
def Uf (u : Nat → Int32) (Ln : Int) (t : Int × Int × Int × Int) : Prop := u 3 = iZ t.1 ∧ u 4 = iZ Ln ∧ u 5 = iZ t.2.2.1 ∧ u 6 = iZ t.2.1 ∧ u 7 = iZ t.2.2.2
set_option maxRecDepth 20000 in
set_option maxHeartbeats 8000000 in
theorem ga_loop {G : GC} {d mc ms : Nat} {h : HS} {K : Option Value → HS → Prop} {j o n : Nat} {a b Ln : Int} (S : Shp h) (M : Smp h j o n) (ha : 0 ≤ a ∧ b < n) (hw : ∀ X, a ≤ X → X ≤ b → ¬ sap h o X = -1000000000) : ∀ (m : Nat) (X P R C L : Int) (u : Nat → Int32) (v5 : Value), X + m = b + 1 → a ≤ X → (0 ≤ P ∧ P ≤ 999) → (0 ≤ R ∧ R ≤ 200) → (0 ≤ C ∧ C ≤ X - a) → (0 ≤ L ∧ L ≤ X - a) → Uf u Ln (P, R, C, L) → (∀ u, Uf u Ln (mea (sap h o) (lmt h o) a m X P R C L) → K none (setR h 115 u)) → Go G (d + 2) mc ms M_X12_gathers 38 [.ref 99, .int (iZ (j : Int)), .int (iZ a), .int (iZ b), .int (iZ X), v5] [] (setR h 115 u) K := by
  have CS := M.2.1
  have hn := M.n
  have hj6 := M.j
  have hq0 := CS.1
  intro m
  induction m with
  | zero =>
    intro X P R C L u v5 hm hx hP hR hC hL hU hk
    refine Go_iload (pc' := 40) dX12_gathers_38 rfl rfl ?_
    refine Go_iload_n (pc' := 41) dX12_gathers_40 rfl rfl rfl ?_
    refine Go_icmp_gtY (tgt := 174) (pc' := 44) dX12_gathers_41 (by decide) rfl (by first | exact ⟨i_lo _, i_hi _⟩ | omega) (by first | exact ⟨i_lo _, i_hi _⟩ | omega) (fun c41 => ?_) (fun c41 => by exfalso; omega)
    refine Go_return dX12_gathers_174 rfl ?_
    exact hk u hU
  | succ m ih =>
    intro X P R C L u v5 hm hx hP hR hC hL hU hk
    have s0 := sap_ok M (X := X) (by omega)
    have s1 := hw X (by omega) (by omega)
    have s2 : a < X → (-999 ≤ sap h o (X - 1) ∧ sap h o (X - 1) ≤ 999) := fun z => by have q1 := sap_ok M (X := X - 1) (by omega); have q2 := hw (X - 1) (by omega) (by omega); omega
    obtain ⟨U1, U2, U3, U4, U5⟩ := hU
    refine Go_iload (pc' := 40) dX12_gathers_38 rfl rfl ?_
    refine Go_iload_n (pc' := 41) dX12_gathers_40 rfl rfl rfl ?_
    refine Go_icmp_gtY (tgt := 174) (pc' := 44) dX12_gathers_41 (by decide) rfl (by first | exact ⟨i_lo _, i_hi _⟩ | omega) (by first | exact ⟨i_lo _, i_hi _⟩ | omega) (fun c41 => by exfalso; omega) (fun c41 => ?_)
    refine Go_aload_n (pc' := 45) dX12_gathers_44 rfl rfl rfl ?_
    refine Go_iload_n (pc' := 46) dX12_gathers_45 rfl rfl rfl ?_
    refine Go_iload (pc' := 48) dX12_gathers_46 rfl rfl ?_
    refine Go_callV_i (pc' := 51) (As := [.int _, .int _]) (st := []) dX12_gathers_48 rfl ok_X12_sample km_RX12_163 (S.o 99 rfl rfl rfl) (S.b 99 rfl rfl) ⟨_, _, rfl⟩ rfl (Nat.le_of_ble_eq_true rfl) rfl rfl rfl (Nat.le_of_ble_eq_true rfl) (Nat.lt_succ_self _) ?_
    refine s_smpMD ((DifS.rf h).setR (by omega)) S M (by omega) ?_
    refine ⟨_, rfl, ?_⟩
    refine Go_istore (pc' := 53) (lv' := [.ref _, .int _, .int _, .int _, .int _, .int _]) dX12_gathers_51 rfl (Nat.le_of_ble_eq_true rfl) rfl rfl ?_
    refine Go_iload (pc' := 55) dX12_gathers_53 rfl rfl ?_
    refine Go_callS_i (pc' := 58) (As := [.int _]) (st := []) dX12_gathers_55 rfl ok_X12_far km_RX12_192 rfl (Nat.le_of_ble_eq_true rfl) rfl rfl rfl (Nat.le_of_ble_eq_true rfl) (Nat.lt_succ_self _) ?_
    refine s_farY (by omega) ?_
    refine ⟨_, rfl, ?_⟩
    refine Go_aload_n (pc' := 59) dX12_gathers_58 rfl rfl rfl ?_
    refine Go_getRs (pc' := 62) dX12_gathers_59 rfl kf_RX12_55 (by decide) (by decide) rfl (S.b 99 rfl rfl) (S.o 99 rfl rfl rfl) (S.r 99 16 rfl rfl rfl) ?_
    refine Go_iconst (v := iZ 3) (pc' := 63) dX12_gathers_62 rfl (by decide) ?_
    refine Go_ialoadZ (n := 8) (k := 3) (v := (iZ P)) (pc' := 64) dX12_gathers_63 rfl (S.b 115 rfl rfl) (S.k 115 rfl rfl rfl) rfl (by decide) (by decide) ((vi_setR h 115 u 3).trans U1) ?_
    refine Go_icmp_leY (tgt := 89) (pc' := 67) dX12_gathers_64 (by decide) rfl (by first | exact ⟨i_lo _, i_hi _⟩ | omega) (by first | exact ⟨i_lo _, i_hi _⟩ | omega) (fun c64 => ?_) (fun c64 => ?_)
    · refine Go_aload_n (pc' := 90) dX12_gathers_89 rfl rfl rfl ?_
      refine Go_getRs (pc' := 93) dX12_gathers_90 rfl kf_RX12_55 (by decide) (by decide) rfl (S.b 99 rfl rfl) (S.o 99 rfl rfl rfl) (S.r 99 16 rfl rfl rfl) ?_
      refine Go_bipush (v := iZ 7) (pc' := 95) dX12_gathers_93 rfl (by decide) ?_
      refine Go_dup2 (pc' := 96) dX12_gathers_95 rfl rfl rfl ?_
      refine Go_ialoadZ (n := 8) (k := 7) (v := (iZ L)) (pc' := 97) dX12_gathers_96 rfl (S.b 115 rfl rfl) (S.k 115 rfl rfl rfl) rfl (by decide) (by decide) ((vi_setR h 115 u 7).trans U5) ?_
      refine Go_aload_n (pc' := 98) dX12_gathers_97 rfl rfl rfl ?_
      refine Go_iload_n (pc' := 99) dX12_gathers_98 rfl rfl rfl ?_
      refine Go_iload (pc' := 101) dX12_gathers_99 rfl rfl ?_
      refine Go_callV_i (pc' := 104) (As := [.int _, .int _]) (st := [.int _, .int _, .ref _]) dX12_gathers_101 rfl ok_X12_isClipped km_RX12_167 (S.o 99 rfl rfl rfl) (S.b 99 rfl rfl) ⟨_, _, rfl⟩ rfl (Nat.le_of_ble_eq_true rfl) rfl rfl rfl (Nat.le_of_ble_eq_true rfl) (Nat.lt_succ_self _) ?_
      refine s_clpMD ((DifS.rf h).setR (by omega)) S M (by omega) ?_
      refine ⟨_, rfl, ?_⟩
      refine Go_if_eqb (tgt := 111) (pc' := 107) dX12_gathers_104 (by decide) rfl (fun c104 => ?_) (fun c104 => ?_)
      · refine Go_iconst (v := iZ 0) (pc' := 112) dX12_gathers_111 rfl (by decide) ?_
        refine Go_iaddZ (pc' := 113) dX12_gathers_112 rfl ?_
        refine Go_iastoreZ (n := 8) (k := 7) (pc' := 114) dX12_gathers_113 rfl (S.b 115 rfl rfl) (S.k 115 rfl rfl rfl) rfl (by decide) (by decide) ?_
        refine Go_iload (pc' := 116) dX12_gathers_114 rfl rfl ?_
        refine Go_iload_n (pc' := 117) dX12_gathers_116 rfl rfl rfl ?_
        refine Go_icmp_leY (tgt := 168) (pc' := 120) dX12_gathers_117 (by decide) rfl (by first | exact ⟨i_lo _, i_hi _⟩ | omega) (by first | exact ⟨i_lo _, i_hi _⟩ | omega) (fun c117 => ?_) (fun c117 => ?_)
        · refine Go_iincZ (pc' := 171) (lv' := [.ref _, .int _, .int _, .int _, .int _, .int _]) dX12_gathers_168 rfl rfl (Nat.le_of_ble_eq_true rfl) rfl rfl ?_
          refine Go_goto (tgt := 38) dX12_gathers_171 (by decide) ?_
          have e3 : X + 1 - a = X + 1 - a := rfl
          rw [mea_s (P' := P) (R' := R) (C' := C) (L' := (L + 0)) (by split <;> omega) (by split <;> omega) (by split <;> omega) (by split <;> omega)] at hk
          rw [setR_wI]
          refine ih (X + 1) _ _ _ _ _ _ (by omega) (by omega) (by omega) (by omega) (by omega) (by omega) ⟨(by simp [upd, U1, U2, U3, U4, U5, iZ_self]), (by simp [upd, U1, U2, U3, U4, U5, iZ_self]), (by simp [upd, U1, U2, U3, U4, U5, iZ_self]), (by simp [upd, U1, U2, U3, U4, U5, iZ_self]), (by simp [upd, U1, U2, U3, U4, U5, iZ_self])⟩ hk
        · refine Go_aload_n (pc' := 121) dX12_gathers_120 rfl rfl rfl ?_
          refine Go_getRs (pc' := 124) dX12_gathers_121 rfl kf_RX12_55 (by decide) (by decide) rfl (S.b 99 rfl rfl) (S.o 99 rfl rfl rfl) (S.r 99 16 rfl rfl rfl) ?_
          refine Go_iconst (v := iZ 5) (pc' := 125) dX12_gathers_124 rfl (by decide) ?_
          refine Go_dup2 (pc' := 126) dX12_gathers_125 rfl rfl rfl ?_
          refine Go_ialoadZ (n := 8) (k := 5) (v := (iZ C)) (pc' := 127) dX12_gathers_126 rfl (S.b 115 rfl rfl) (S.k 115 rfl rfl rfl) rfl (by decide) (by decide) ((vi_skip (Or.inr (by decide))).trans ((vi_setR h 115 u 5).trans U3)) ?_
          refine Go_iload (pc' := 129) dX12_gathers_127 rfl rfl ?_
          refine Go_if_leY (tgt := 144) (pc' := 132) dX12_gathers_129 (by decide) rfl (by first | exact ⟨i_lo _, i_hi _⟩ | omega) (fun c129 => ?_) (fun c129 => ?_)
          · refine Go_iload (pc' := 146) dX12_gathers_144 rfl rfl ?_
            refine Go_if_geY (tgt := 165) (pc' := 149) dX12_gathers_146 (by decide) rfl (by first | exact ⟨i_lo _, i_hi _⟩ | omega) (fun c146 => ?_) (fun c146 => ?_)
            · refine Go_iconst (v := iZ 0) (pc' := 166) dX12_gathers_165 rfl (by decide) ?_
              refine Go_iaddZ (pc' := 167) dX12_gathers_166 rfl ?_
              refine Go_iastoreZ (n := 8) (k := 5) (pc' := 168) dX12_gathers_167 rfl (S.b 115 rfl rfl) (S.k 115 rfl rfl rfl) rfl (by decide) (by decide) ?_
              refine Go_iincZ (pc' := 171) (lv' := [.ref _, .int _, .int _, .int _, .int _, .int _]) dX12_gathers_168 rfl rfl (Nat.le_of_ble_eq_true rfl) rfl rfl ?_
              refine Go_goto (tgt := 38) dX12_gathers_171 (by decide) ?_
              have e3 : X + 1 - a = X + 1 - a := rfl
              rw [mea_s (P' := P) (R' := R) (C' := (C + 0)) (L' := (L + 0)) (by split <;> omega) (by split <;> omega) (by split <;> omega) (by split <;> omega)] at hk
              rw [setR_wI, setR_wI]
              refine ih (X + 1) _ _ _ _ _ _ (by omega) (by omega) (by omega) (by omega) (by omega) (by omega) ⟨(by simp [upd, U1, U2, U3, U4, U5, iZ_self]), (by simp [upd, U1, U2, U3, U4, U5, iZ_self]), (by simp [upd, U1, U2, U3, U4, U5, iZ_self]), (by simp [upd, U1, U2, U3, U4, U5, iZ_self]), (by simp [upd, U1, U2, U3, U4, U5, iZ_self])⟩ hk
            · refine Go_aload_n (pc' := 150) dX12_gathers_149 rfl rfl rfl ?_
              refine Go_iload_n (pc' := 151) dX12_gathers_150 rfl rfl rfl ?_
              refine Go_iload (pc' := 153) dX12_gathers_151 rfl rfl ?_
              refine Go_iconst (v := iZ 1) (pc' := 154) dX12_gathers_153 rfl (by decide) ?_
              refine Go_isubZ (pc' := 155) dX12_gathers_154 rfl ?_
              refine Go_callV_i (pc' := 158) (As := [.int _, .int _]) (st := [.int _, .int _, .ref _]) dX12_gathers_155 rfl ok_X12_sample km_RX12_163 (S.o 99 rfl rfl rfl) (S.b 99 rfl rfl) ⟨_, _, rfl⟩ rfl (Nat.le_of_ble_eq_true rfl) rfl rfl rfl (Nat.le_of_ble_eq_true rfl) (Nat.lt_succ_self _) ?_
              refine s_smpMD (((DifS.rf h).setR (by omega)).wI (by omega)) S M (by omega) ?_
              refine ⟨_, rfl, ?_⟩
              refine Go_if_leY (tgt := 165) (pc' := 161) dX12_gathers_158 (by decide) rfl (by first | exact ⟨i_lo _, i_hi _⟩ | omega) (fun c158 => ?_) (fun c158 => ?_)
              · refine Go_iconst (v := iZ 0) (pc' := 166) dX12_gathers_165 rfl (by decide) ?_
                refine Go_iaddZ (pc' := 167) dX12_gathers_166 rfl ?_
                refine Go_iastoreZ (n := 8) (k := 5) (pc' := 168) dX12_gathers_167 rfl (S.b 115 rfl rfl) (S.k 115 rfl rfl rfl) rfl (by decide) (by decide) ?_
                refine Go_iincZ (pc' := 171) (lv' := [.ref _, .int _, .int _, .int _, .int _, .int _]) dX12_gathers_168 rfl rfl (Nat.le_of_ble_eq_true rfl) rfl rfl ?_
                refine Go_goto (tgt := 38) dX12_gathers_171 (by decide) ?_
                have e3 : X + 1 - a = X + 1 - a := rfl
                rw [mea_s (P' := P) (R' := R) (C' := (C + 0)) (L' := (L + 0)) (by split <;> omega) (by split <;> omega) (by split <;> omega) (by split <;> omega)] at hk
                rw [setR_wI, setR_wI]
                refine ih (X + 1) _ _ _ _ _ _ (by omega) (by omega) (by omega) (by omega) (by omega) (by omega) ⟨(by simp [upd, U1, U2, U3, U4, U5, iZ_self]), (by simp [upd, U1, U2, U3, U4, U5, iZ_self]), (by simp [upd, U1, U2, U3, U4, U5, iZ_self]), (by simp [upd, U1, U2, U3, U4, U5, iZ_self]), (by simp [upd, U1, U2, U3, U4, U5, iZ_self])⟩ hk
              · refine Go_iconst (v := iZ 1) (pc' := 162) dX12_gathers_161 rfl (by decide) ?_
                refine Go_goto (tgt := 166) dX12_gathers_162 (by decide) ?_
                refine Go_iaddZ (pc' := 167) dX12_gathers_166 rfl ?_
                refine Go_iastoreZ (n := 8) (k := 5) (pc' := 168) dX12_gathers_167 rfl (S.b 115 rfl rfl) (S.k 115 rfl rfl rfl) rfl (by decide) (by decide) ?_
                refine Go_iincZ (pc' := 171) (lv' := [.ref _, .int _, .int _, .int _, .int _, .int _]) dX12_gathers_168 rfl rfl (Nat.le_of_ble_eq_true rfl) rfl rfl ?_
                refine Go_goto (tgt := 38) dX12_gathers_171 (by decide) ?_
                have e3 : X + 1 - a = X + 1 - a := rfl
                rw [mea_s (P' := P) (R' := R) (C' := (C + 1)) (L' := (L + 0)) (by split <;> omega) (by split <;> omega) (by split <;> omega) (by split <;> omega)] at hk
                rw [setR_wI, setR_wI]
                refine ih (X + 1) _ _ _ _ _ _ (by omega) (by omega) (by omega) (by omega) (by omega) (by omega) ⟨(by simp [upd, U1, U2, U3, U4, U5, iZ_self]), (by simp [upd, U1, U2, U3, U4, U5, iZ_self]), (by simp [upd, U1, U2, U3, U4, U5, iZ_self]), (by simp [upd, U1, U2, U3, U4, U5, iZ_self]), (by simp [upd, U1, U2, U3, U4, U5, iZ_self])⟩ hk
          · refine Go_aload_n (pc' := 133) dX12_gathers_132 rfl rfl rfl ?_
            refine Go_iload_n (pc' := 134) dX12_gathers_133 rfl rfl rfl ?_
            refine Go_iload (pc' := 136) dX12_gathers_134 rfl rfl ?_
            refine Go_iconst (v := iZ 1) (pc' := 137) dX12_gathers_136 rfl (by decide) ?_
            refine Go_isubZ (pc' := 138) dX12_gathers_137 rfl ?_
            refine Go_callV_i (pc' := 141) (As := [.int _, .int _]) (st := [.int _, .int _, .ref _]) dX12_gathers_138 rfl ok_X12_sample km_RX12_163 (S.o 99 rfl rfl rfl) (S.b 99 rfl rfl) ⟨_, _, rfl⟩ rfl (Nat.le_of_ble_eq_true rfl) rfl rfl rfl (Nat.le_of_ble_eq_true rfl) (Nat.lt_succ_self _) ?_
            refine s_smpMD (((DifS.rf h).setR (by omega)).wI (by omega)) S M (by omega) ?_
            refine ⟨_, rfl, ?_⟩
            refine Go_if_ltY (tgt := 161) (pc' := 144) dX12_gathers_141 (by decide) rfl (by first | exact ⟨i_lo _, i_hi _⟩ | omega) (fun c141 => ?_) (fun c141 => ?_)
            · refine Go_iconst (v := iZ 1) (pc' := 162) dX12_gathers_161 rfl (by decide) ?_
              refine Go_goto (tgt := 166) dX12_gathers_162 (by decide) ?_
              refine Go_iaddZ (pc' := 167) dX12_gathers_166 rfl ?_
              refine Go_iastoreZ (n := 8) (k := 5) (pc' := 168) dX12_gathers_167 rfl (S.b 115 rfl rfl) (S.k 115 rfl rfl rfl) rfl (by decide) (by decide) ?_
              refine Go_iincZ (pc' := 171) (lv' := [.ref _, .int _, .int _, .int _, .int _, .int _]) dX12_gathers_168 rfl rfl (Nat.le_of_ble_eq_true rfl) rfl rfl ?_
              refine Go_goto (tgt := 38) dX12_gathers_171 (by decide) ?_
              have e3 : X + 1 - a = X + 1 - a := rfl
              rw [mea_s (P' := P) (R' := R) (C' := (C + 1)) (L' := (L + 0)) (by split <;> omega) (by split <;> omega) (by split <;> omega) (by split <;> omega)] at hk
              rw [setR_wI, setR_wI]
              refine ih (X + 1) _ _ _ _ _ _ (by omega) (by omega) (by omega) (by omega) (by omega) (by omega) ⟨(by simp [upd, U1, U2, U3, U4, U5, iZ_self]), (by simp [upd, U1, U2, U3, U4, U5, iZ_self]), (by simp [upd, U1, U2, U3, U4, U5, iZ_self]), (by simp [upd, U1, U2, U3, U4, U5, iZ_self]), (by simp [upd, U1, U2, U3, U4, U5, iZ_self])⟩ hk
            · refine Go_iload (pc' := 146) dX12_gathers_144 rfl rfl ?_
              refine Go_if_geY (tgt := 165) (pc' := 149) dX12_gathers_146 (by decide) rfl (by first | exact ⟨i_lo _, i_hi _⟩ | omega) (fun c146 => ?_) (fun c146 => ?_)
              · refine Go_iconst (v := iZ 0) (pc' := 166) dX12_gathers_165 rfl (by decide) ?_
                refine Go_iaddZ (pc' := 167) dX12_gathers_166 rfl ?_
                refine Go_iastoreZ (n := 8) (k := 5) (pc' := 168) dX12_gathers_167 rfl (S.b 115 rfl rfl) (S.k 115 rfl rfl rfl) rfl (by decide) (by decide) ?_
                refine Go_iincZ (pc' := 171) (lv' := [.ref _, .int _, .int _, .int _, .int _, .int _]) dX12_gathers_168 rfl rfl (Nat.le_of_ble_eq_true rfl) rfl rfl ?_
                refine Go_goto (tgt := 38) dX12_gathers_171 (by decide) ?_
                have e3 : X + 1 - a = X + 1 - a := rfl
                rw [mea_s (P' := P) (R' := R) (C' := (C + 0)) (L' := (L + 0)) (by split <;> omega) (by split <;> omega) (by split <;> omega) (by split <;> omega)] at hk
                rw [setR_wI, setR_wI]
                refine ih (X + 1) _ _ _ _ _ _ (by omega) (by omega) (by omega) (by omega) (by omega) (by omega) ⟨(by simp [upd, U1, U2, U3, U4, U5, iZ_self]), (by simp [upd, U1, U2, U3, U4, U5, iZ_self]), (by simp [upd, U1, U2, U3, U4, U5, iZ_self]), (by simp [upd, U1, U2, U3, U4, U5, iZ_self]), (by simp [upd, U1, U2, U3, U4, U5, iZ_self])⟩ hk
              · refine Go_aload_n (pc' := 150) dX12_gathers_149 rfl rfl rfl ?_
                refine Go_iload_n (pc' := 151) dX12_gathers_150 rfl rfl rfl ?_
                refine Go_iload (pc' := 153) dX12_gathers_151 rfl rfl ?_
                refine Go_iconst (v := iZ 1) (pc' := 154) dX12_gathers_153 rfl (by decide) ?_
                refine Go_isubZ (pc' := 155) dX12_gathers_154 rfl ?_
                refine Go_callV_i (pc' := 158) (As := [.int _, .int _]) (st := [.int _, .int _, .ref _]) dX12_gathers_155 rfl ok_X12_sample km_RX12_163 (S.o 99 rfl rfl rfl) (S.b 99 rfl rfl) ⟨_, _, rfl⟩ rfl (Nat.le_of_ble_eq_true rfl) rfl rfl rfl (Nat.le_of_ble_eq_true rfl) (Nat.lt_succ_self _) ?_
                refine s_smpMD (((DifS.rf h).setR (by omega)).wI (by omega)) S M (by omega) ?_
                refine ⟨_, rfl, ?_⟩
                refine Go_if_leY (tgt := 165) (pc' := 161) dX12_gathers_158 (by decide) rfl (by first | exact ⟨i_lo _, i_hi _⟩ | omega) (fun c158 => ?_) (fun c158 => ?_)
                · refine Go_iconst (v := iZ 0) (pc' := 166) dX12_gathers_165 rfl (by decide) ?_
                  refine Go_iaddZ (pc' := 167) dX12_gathers_166 rfl ?_
                  refine Go_iastoreZ (n := 8) (k := 5) (pc' := 168) dX12_gathers_167 rfl (S.b 115 rfl rfl) (S.k 115 rfl rfl rfl) rfl (by decide) (by decide) ?_
                  refine Go_iincZ (pc' := 171) (lv' := [.ref _, .int _, .int _, .int _, .int _, .int _]) dX12_gathers_168 rfl rfl (Nat.le_of_ble_eq_true rfl) rfl rfl ?_
                  refine Go_goto (tgt := 38) dX12_gathers_171 (by decide) ?_
                  have e3 : X + 1 - a = X + 1 - a := rfl
                  rw [mea_s (P' := P) (R' := R) (C' := (C + 0)) (L' := (L + 0)) (by split <;> omega) (by split <;> omega) (by split <;> omega) (by split <;> omega)] at hk
                  rw [setR_wI, setR_wI]
                  refine ih (X + 1) _ _ _ _ _ _ (by omega) (by omega) (by omega) (by omega) (by omega) (by omega) ⟨(by simp [upd, U1, U2, U3, U4, U5, iZ_self]), (by simp [upd, U1, U2, U3, U4, U5, iZ_self]), (by simp [upd, U1, U2, U3, U4, U5, iZ_self]), (by simp [upd, U1, U2, U3, U4, U5, iZ_self]), (by simp [upd, U1, U2, U3, U4, U5, iZ_self])⟩ hk
                · refine Go_iconst (v := iZ 1) (pc' := 162) dX12_gathers_161 rfl (by decide) ?_
                  refine Go_goto (tgt := 166) dX12_gathers_162 (by decide) ?_
                  refine Go_iaddZ (pc' := 167) dX12_gathers_166 rfl ?_
                  refine Go_iastoreZ (n := 8) (k := 5) (pc' := 168) dX12_gathers_167 rfl (S.b 115 rfl rfl) (S.k 115 rfl rfl rfl) rfl (by decide) (by decide) ?_
                  refine Go_iincZ (pc' := 171) (lv' := [.ref _, .int _, .int _, .int _, .int _, .int _]) dX12_gathers_168 rfl rfl (Nat.le_of_ble_eq_true rfl) rfl rfl ?_
                  refine Go_goto (tgt := 38) dX12_gathers_171 (by decide) ?_
                  have e3 : X + 1 - a = X + 1 - a := rfl
                  rw [mea_s (P' := P) (R' := R) (C' := (C + 1)) (L' := (L + 0)) (by split <;> omega) (by split <;> omega) (by split <;> omega) (by split <;> omega)] at hk
                  rw [setR_wI, setR_wI]
                  refine ih (X + 1) _ _ _ _ _ _ (by omega) (by omega) (by omega) (by omega) (by omega) (by omega) ⟨(by simp [upd, U1, U2, U3, U4, U5, iZ_self]), (by simp [upd, U1, U2, U3, U4, U5, iZ_self]), (by simp [upd, U1, U2, U3, U4, U5, iZ_self]), (by simp [upd, U1, U2, U3, U4, U5, iZ_self]), (by simp [upd, U1, U2, U3, U4, U5, iZ_self])⟩ hk
      · refine Go_iconst (v := iZ 1) (pc' := 108) dX12_gathers_107 rfl (by decide) ?_
        refine Go_goto (tgt := 112) dX12_gathers_108 (by decide) ?_
        refine Go_iaddZ (pc' := 113) dX12_gathers_112 rfl ?_
        refine Go_iastoreZ (n := 8) (k := 7) (pc' := 114) dX12_gathers_113 rfl (S.b 115 rfl rfl) (S.k 115 rfl rfl rfl) rfl (by decide) (by decide) ?_
        refine Go_iload (pc' := 116) dX12_gathers_114 rfl rfl ?_
        refine Go_iload_n (pc' := 117) dX12_gathers_116 rfl rfl rfl ?_
        refine Go_icmp_leY (tgt := 168) (pc' := 120) dX12_gathers_117 (by decide) rfl (by first | exact ⟨i_lo _, i_hi _⟩ | omega) (by first | exact ⟨i_lo _, i_hi _⟩ | omega) (fun c117 => ?_) (fun c117 => ?_)
        · refine Go_iincZ (pc' := 171) (lv' := [.ref _, .int _, .int _, .int _, .int _, .int _]) dX12_gathers_168 rfl rfl (Nat.le_of_ble_eq_true rfl) rfl rfl ?_
          refine Go_goto (tgt := 38) dX12_gathers_171 (by decide) ?_
          have e3 : X + 1 - a = X + 1 - a := rfl
          rw [mea_s (P' := P) (R' := R) (C' := C) (L' := (L + 1)) (by split <;> omega) (by split <;> omega) (by split <;> omega) (by split <;> omega)] at hk
          rw [setR_wI]
          refine ih (X + 1) _ _ _ _ _ _ (by omega) (by omega) (by omega) (by omega) (by omega) (by omega) ⟨(by simp [upd, U1, U2, U3, U4, U5, iZ_self]), (by simp [upd, U1, U2, U3, U4, U5, iZ_self]), (by simp [upd, U1, U2, U3, U4, U5, iZ_self]), (by simp [upd, U1, U2, U3, U4, U5, iZ_self]), (by simp [upd, U1, U2, U3, U4, U5, iZ_self])⟩ hk
        · refine Go_aload_n (pc' := 121) dX12_gathers_120 rfl rfl rfl ?_
          refine Go_getRs (pc' := 124) dX12_gathers_121 rfl kf_RX12_55 (by decide) (by decide) rfl (S.b 99 rfl rfl) (S.o 99 rfl rfl rfl) (S.r 99 16 rfl rfl rfl) ?_
          refine Go_iconst (v := iZ 5) (pc' := 125) dX12_gathers_124 rfl (by decide) ?_
          refine Go_dup2 (pc' := 126) dX12_gathers_125 rfl rfl rfl ?_
          refine Go_ialoadZ (n := 8) (k := 5) (v := (iZ C)) (pc' := 127) dX12_gathers_126 rfl (S.b 115 rfl rfl) (S.k 115 rfl rfl rfl) rfl (by decide) (by decide) ((vi_skip (Or.inr (by decide))).trans ((vi_setR h 115 u 5).trans U3)) ?_
          refine Go_iload (pc' := 129) dX12_gathers_127 rfl rfl ?_
          refine Go_if_leY (tgt := 144) (pc' := 132) dX12_gathers_129 (by decide) rfl (by first | exact ⟨i_lo _, i_hi _⟩ | omega) (fun c129 => ?_) (fun c129 => ?_)
          · refine Go_iload (pc' := 146) dX12_gathers_144 rfl rfl ?_
            refine Go_if_geY (tgt := 165) (pc' := 149) dX12_gathers_146 (by decide) rfl (by first | exact ⟨i_lo _, i_hi _⟩ | omega) (fun c146 => ?_) (fun c146 => ?_)
            · refine Go_iconst (v := iZ 0) (pc' := 166) dX12_gathers_165 rfl (by decide) ?_
              refine Go_iaddZ (pc' := 167) dX12_gathers_166 rfl ?_
              refine Go_iastoreZ (n := 8) (k := 5) (pc' := 168) dX12_gathers_167 rfl (S.b 115 rfl rfl) (S.k 115 rfl rfl rfl) rfl (by decide) (by decide) ?_
              refine Go_iincZ (pc' := 171) (lv' := [.ref _, .int _, .int _, .int _, .int _, .int _]) dX12_gathers_168 rfl rfl (Nat.le_of_ble_eq_true rfl) rfl rfl ?_
              refine Go_goto (tgt := 38) dX12_gathers_171 (by decide) ?_
              have e3 : X + 1 - a = X + 1 - a := rfl
              rw [mea_s (P' := P) (R' := R) (C' := (C + 0)) (L' := (L + 1)) (by split <;> omega) (by split <;> omega) (by split <;> omega) (by split <;> omega)] at hk
              rw [setR_wI, setR_wI]
              refine ih (X + 1) _ _ _ _ _ _ (by omega) (by omega) (by omega) (by omega) (by omega) (by omega) ⟨(by simp [upd, U1, U2, U3, U4, U5, iZ_self]), (by simp [upd, U1, U2, U3, U4, U5, iZ_self]), (by simp [upd, U1, U2, U3, U4, U5, iZ_self]), (by simp [upd, U1, U2, U3, U4, U5, iZ_self]), (by simp [upd, U1, U2, U3, U4, U5, iZ_self])⟩ hk
            · refine Go_aload_n (pc' := 150) dX12_gathers_149 rfl rfl rfl ?_
              refine Go_iload_n (pc' := 151) dX12_gathers_150 rfl rfl rfl ?_
              refine Go_iload (pc' := 153) dX12_gathers_151 rfl rfl ?_
              refine Go_iconst (v := iZ 1) (pc' := 154) dX12_gathers_153 rfl (by decide) ?_
              refine Go_isubZ (pc' := 155) dX12_gathers_154 rfl ?_
              refine Go_callV_i (pc' := 158) (As := [.int _, .int _]) (st := [.int _, .int _, .ref _]) dX12_gathers_155 rfl ok_X12_sample km_RX12_163 (S.o 99 rfl rfl rfl) (S.b 99 rfl rfl) ⟨_, _, rfl⟩ rfl (Nat.le_of_ble_eq_true rfl) rfl rfl rfl (Nat.le_of_ble_eq_true rfl) (Nat.lt_succ_self _) ?_
              refine s_smpMD (((DifS.rf h).setR (by omega)).wI (by omega)) S M (by omega) ?_
              refine ⟨_, rfl, ?_⟩
              refine Go_if_leY (tgt := 165) (pc' := 161) dX12_gathers_158 (by decide) rfl (by first | exact ⟨i_lo _, i_hi _⟩ | omega) (fun c158 => ?_) (fun c158 => ?_)
              · refine Go_iconst (v := iZ 0) (pc' := 166) dX12_gathers_165 rfl (by decide) ?_
                refine Go_iaddZ (pc' := 167) dX12_gathers_166 rfl ?_
                refine Go_iastoreZ (n := 8) (k := 5) (pc' := 168) dX12_gathers_167 rfl (S.b 115 rfl rfl) (S.k 115 rfl rfl rfl) rfl (by decide) (by decide) ?_
                refine Go_iincZ (pc' := 171) (lv' := [.ref _, .int _, .int _, .int _, .int _, .int _]) dX12_gathers_168 rfl rfl (Nat.le_of_ble_eq_true rfl) rfl rfl ?_
                refine Go_goto (tgt := 38) dX12_gathers_171 (by decide) ?_
                have e3 : X + 1 - a = X + 1 - a := rfl
                rw [mea_s (P' := P) (R' := R) (C' := (C + 0)) (L' := (L + 1)) (by split <;> omega) (by split <;> omega) (by split <;> omega) (by split <;> omega)] at hk
                rw [setR_wI, setR_wI]
                refine ih (X + 1) _ _ _ _ _ _ (by omega) (by omega) (by omega) (by omega) (by omega) (by omega) ⟨(by simp [upd, U1, U2, U3, U4, U5, iZ_self]), (by simp [upd, U1, U2, U3, U4, U5, iZ_self]), (by simp [upd, U1, U2, U3, U4, U5, iZ_self]), (by simp [upd, U1, U2, U3, U4, U5, iZ_self]), (by simp [upd, U1, U2, U3, U4, U5, iZ_self])⟩ hk
              · refine Go_iconst (v := iZ 1) (pc' := 162) dX12_gathers_161 rfl (by decide) ?_
                refine Go_goto (tgt := 166) dX12_gathers_162 (by decide) ?_
                refine Go_iaddZ (pc' := 167) dX12_gathers_166 rfl ?_
                refine Go_iastoreZ (n := 8) (k := 5) (pc' := 168) dX12_gathers_167 rfl (S.b 115 rfl rfl) (S.k 115 rfl rfl rfl) rfl (by decide) (by decide) ?_
                refine Go_iincZ (pc' := 171) (lv' := [.ref _, .int _, .int _, .int _, .int _, .int _]) dX12_gathers_168 rfl rfl (Nat.le_of_ble_eq_true rfl) rfl rfl ?_
                refine Go_goto (tgt := 38) dX12_gathers_171 (by decide) ?_
                have e3 : X + 1 - a = X + 1 - a := rfl
                rw [mea_s (P' := P) (R' := R) (C' := (C + 1)) (L' := (L + 1)) (by split <;> omega) (by split <;> omega) (by split <;> omega) (by split <;> omega)] at hk
                rw [setR_wI, setR_wI]
                refine ih (X + 1) _ _ _ _ _ _ (by omega) (by omega) (by omega) (by omega) (by omega) (by omega) ⟨(by simp [upd, U1, U2, U3, U4, U5, iZ_self]), (by simp [upd, U1, U2, U3, U4, U5, iZ_self]), (by simp [upd, U1, U2, U3, U4, U5, iZ_self]), (by simp [upd, U1, U2, U3, U4, U5, iZ_self]), (by simp [upd, U1, U2, U3, U4, U5, iZ_self])⟩ hk
          · refine Go_aload_n (pc' := 133) dX12_gathers_132 rfl rfl rfl ?_
            refine Go_iload_n (pc' := 134) dX12_gathers_133 rfl rfl rfl ?_
            refine Go_iload (pc' := 136) dX12_gathers_134 rfl rfl ?_
            refine Go_iconst (v := iZ 1) (pc' := 137) dX12_gathers_136 rfl (by decide) ?_
            refine Go_isubZ (pc' := 138) dX12_gathers_137 rfl ?_
            refine Go_callV_i (pc' := 141) (As := [.int _, .int _]) (st := [.int _, .int _, .ref _]) dX12_gathers_138 rfl ok_X12_sample km_RX12_163 (S.o 99 rfl rfl rfl) (S.b 99 rfl rfl) ⟨_, _, rfl⟩ rfl (Nat.le_of_ble_eq_true rfl) rfl rfl rfl (Nat.le_of_ble_eq_true rfl) (Nat.lt_succ_self _) ?_
            refine s_smpMD (((DifS.rf h).setR (by omega)).wI (by omega)) S M (by omega) ?_
            refine ⟨_, rfl, ?_⟩
            refine Go_if_ltY (tgt := 161) (pc' := 144) dX12_gathers_141 (by decide) rfl (by first | exact ⟨i_lo _, i_hi _⟩ | omega) (fun c141 => ?_) (fun c141 => ?_)
            · refine Go_iconst (v := iZ 1) (pc' := 162) dX12_gathers_161 rfl (by decide) ?_
              refine Go_goto (tgt := 166) dX12_gathers_162 (by decide) ?_
              refine Go_iaddZ (pc' := 167) dX12_gathers_166 rfl ?_
              refine Go_iastoreZ (n := 8) (k := 5) (pc' := 168) dX12_gathers_167 rfl (S.b 115 rfl rfl) (S.k 115 rfl rfl rfl) rfl (by decide) (by decide) ?_
              refine Go_iincZ (pc' := 171) (lv' := [.ref _, .int _, .int _, .int _, .int _, .int _]) dX12_gathers_168 rfl rfl (Nat.le_of_ble_eq_true rfl) rfl rfl ?_
              refine Go_goto (tgt := 38) dX12_gathers_171 (by decide) ?_
              have e3 : X + 1 - a = X + 1 - a := rfl
              rw [mea_s (P' := P) (R' := R) (C' := (C + 1)) (L' := (L + 1)) (by split <;> omega) (by split <;> omega) (by split <;> omega) (by split <;> omega)] at hk
              rw [setR_wI, setR_wI]
              refine ih (X + 1) _ _ _ _ _ _ (by omega) (by omega) (by omega) (by omega) (by omega) (by omega) ⟨(by simp [upd, U1, U2, U3, U4, U5, iZ_self]), (by simp [upd, U1, U2, U3, U4, U5, iZ_self]), (by simp [upd, U1, U2, U3, U4, U5, iZ_self]), (by simp [upd, U1, U2, U3, U4, U5, iZ_self]), (by simp [upd, U1, U2, U3, U4, U5, iZ_self])⟩ hk
            · refine Go_iload (pc' := 146) dX12_gathers_144 rfl rfl ?_
              refine Go_if_geY (tgt := 165) (pc' := 149) dX12_gathers_146 (by decide) rfl (by first | exact ⟨i_lo _, i_hi _⟩ | omega) (fun c146 => ?_) (fun c146 => ?_)
              · refine Go_iconst (v := iZ 0) (pc' := 166) dX12_gathers_165 rfl (by decide) ?_
                refine Go_iaddZ (pc' := 167) dX12_gathers_166 rfl ?_
                refine Go_iastoreZ (n := 8) (k := 5) (pc' := 168) dX12_gathers_167 rfl (S.b 115 rfl rfl) (S.k 115 rfl rfl rfl) rfl (by decide) (by decide) ?_
                refine Go_iincZ (pc' := 171) (lv' := [.ref _, .int _, .int _, .int _, .int _, .int _]) dX12_gathers_168 rfl rfl (Nat.le_of_ble_eq_true rfl) rfl rfl ?_
                refine Go_goto (tgt := 38) dX12_gathers_171 (by decide) ?_
                have e3 : X + 1 - a = X + 1 - a := rfl
                rw [mea_s (P' := P) (R' := R) (C' := (C + 0)) (L' := (L + 1)) (by split <;> omega) (by split <;> omega) (by split <;> omega) (by split <;> omega)] at hk
                rw [setR_wI, setR_wI]
                refine ih (X + 1) _ _ _ _ _ _ (by omega) (by omega) (by omega) (by omega) (by omega) (by omega) ⟨(by simp [upd, U1, U2, U3, U4, U5, iZ_self]), (by simp [upd, U1, U2, U3, U4, U5, iZ_self]), (by simp [upd, U1, U2, U3, U4, U5, iZ_self]), (by simp [upd, U1, U2, U3, U4, U5, iZ_self]), (by simp [upd, U1, U2, U3, U4, U5, iZ_self])⟩ hk
              · refine Go_aload_n (pc' := 150) dX12_gathers_149 rfl rfl rfl ?_
                refine Go_iload_n (pc' := 151) dX12_gathers_150 rfl rfl rfl ?_
                refine Go_iload (pc' := 153) dX12_gathers_151 rfl rfl ?_
                refine Go_iconst (v := iZ 1) (pc' := 154) dX12_gathers_153 rfl (by decide) ?_
                refine Go_isubZ (pc' := 155) dX12_gathers_154 rfl ?_
                refine Go_callV_i (pc' := 158) (As := [.int _, .int _]) (st := [.int _, .int _, .ref _]) dX12_gathers_155 rfl ok_X12_sample km_RX12_163 (S.o 99 rfl rfl rfl) (S.b 99 rfl rfl) ⟨_, _, rfl⟩ rfl (Nat.le_of_ble_eq_true rfl) rfl rfl rfl (Nat.le_of_ble_eq_true rfl) (Nat.lt_succ_self _) ?_
                refine s_smpMD (((DifS.rf h).setR (by omega)).wI (by omega)) S M (by omega) ?_
                refine ⟨_, rfl, ?_⟩
                refine Go_if_leY (tgt := 165) (pc' := 161) dX12_gathers_158 (by decide) rfl (by first | exact ⟨i_lo _, i_hi _⟩ | omega) (fun c158 => ?_) (fun c158 => ?_)
                · refine Go_iconst (v := iZ 0) (pc' := 166) dX12_gathers_165 rfl (by decide) ?_
                  refine Go_iaddZ (pc' := 167) dX12_gathers_166 rfl ?_
                  refine Go_iastoreZ (n := 8) (k := 5) (pc' := 168) dX12_gathers_167 rfl (S.b 115 rfl rfl) (S.k 115 rfl rfl rfl) rfl (by decide) (by decide) ?_
                  refine Go_iincZ (pc' := 171) (lv' := [.ref _, .int _, .int _, .int _, .int _, .int _]) dX12_gathers_168 rfl rfl (Nat.le_of_ble_eq_true rfl) rfl rfl ?_
                  refine Go_goto (tgt := 38) dX12_gathers_171 (by decide) ?_
                  have e3 : X + 1 - a = X + 1 - a := rfl
                  rw [mea_s (P' := P) (R' := R) (C' := (C + 0)) (L' := (L + 1)) (by split <;> omega) (by split <;> omega) (by split <;> omega) (by split <;> omega)] at hk
                  rw [setR_wI, setR_wI]
                  refine ih (X + 1) _ _ _ _ _ _ (by omega) (by omega) (by omega) (by omega) (by omega) (by omega) ⟨(by simp [upd, U1, U2, U3, U4, U5, iZ_self]), (by simp [upd, U1, U2, U3, U4, U5, iZ_self]), (by simp [upd, U1, U2, U3, U4, U5, iZ_self]), (by simp [upd, U1, U2, U3, U4, U5, iZ_self]), (by simp [upd, U1, U2, U3, U4, U5, iZ_self])⟩ hk
                · refine Go_iconst (v := iZ 1) (pc' := 162) dX12_gathers_161 rfl (by decide) ?_
                  refine Go_goto (tgt := 166) dX12_gathers_162 (by decide) ?_
                  refine Go_iaddZ (pc' := 167) dX12_gathers_166 rfl ?_
                  refine Go_iastoreZ (n := 8) (k := 5) (pc' := 168) dX12_gathers_167 rfl (S.b 115 rfl rfl) (S.k 115 rfl rfl rfl) rfl (by decide) (by decide) ?_
                  refine Go_iincZ (pc' := 171) (lv' := [.ref _, .int _, .int _, .int _, .int _, .int _]) dX12_gathers_168 rfl rfl (Nat.le_of_ble_eq_true rfl) rfl rfl ?_
                  refine Go_goto (tgt := 38) dX12_gathers_171 (by decide) ?_
                  have e3 : X + 1 - a = X + 1 - a := rfl
                  rw [mea_s (P' := P) (R' := R) (C' := (C + 1)) (L' := (L + 1)) (by split <;> omega) (by split <;> omega) (by split <;> omega) (by split <;> omega)] at hk
                  rw [setR_wI, setR_wI]
                  refine ih (X + 1) _ _ _ _ _ _ (by omega) (by omega) (by omega) (by omega) (by omega) (by omega) ⟨(by simp [upd, U1, U2, U3, U4, U5, iZ_self]), (by simp [upd, U1, U2, U3, U4, U5, iZ_self]), (by simp [upd, U1, U2, U3, U4, U5, iZ_self]), (by simp [upd, U1, U2, U3, U4, U5, iZ_self]), (by simp [upd, U1, U2, U3, U4, U5, iZ_self])⟩ hk
    · refine Go_aload_n (pc' := 68) dX12_gathers_67 rfl rfl rfl ?_
      refine Go_getRs (pc' := 71) dX12_gathers_68 rfl kf_RX12_55 (by decide) (by decide) rfl (S.b 99 rfl rfl) (S.o 99 rfl rfl rfl) (S.r 99 16 rfl rfl rfl) ?_
      refine Go_iconst (v := iZ 3) (pc' := 72) dX12_gathers_71 rfl (by decide) ?_
      refine Go_iload (pc' := 74) dX12_gathers_72 rfl rfl ?_
      refine Go_callS_i (pc' := 77) (As := [.int _]) (st := [.int _, .ref _]) dX12_gathers_74 rfl ok_X12_far km_RX12_192 rfl (Nat.le_of_ble_eq_true rfl) rfl rfl rfl (Nat.le_of_ble_eq_true rfl) (Nat.lt_succ_self _) ?_
      refine s_farY (by omega) ?_
      refine ⟨_, rfl, ?_⟩
      refine Go_iastoreZ (n := 8) (k := 3) (pc' := 78) dX12_gathers_77 rfl (S.b 115 rfl rfl) (S.k 115 rfl rfl rfl) rfl (by decide) (by decide) ?_
      refine Go_aload_n (pc' := 79) dX12_gathers_78 rfl rfl rfl ?_
      refine Go_getRs (pc' := 82) dX12_gathers_79 rfl kf_RX12_55 (by decide) (by decide) rfl (S.b 99 rfl rfl) (S.o 99 rfl rfl rfl) (S.r 99 16 rfl rfl rfl) ?_
      refine Go_bipush (v := iZ 6) (pc' := 84) dX12_gathers_82 rfl (by decide) ?_
      refine Go_iload (pc' := 86) dX12_gathers_84 rfl rfl ?_
      refine Go_iload_n (pc' := 87) dX12_gathers_86 rfl rfl rfl ?_
      refine Go_isubZ (pc' := 88) dX12_gathers_87 rfl ?_
      refine Go_iastoreZ (n := 8) (k := 6) (pc' := 89) dX12_gathers_88 rfl (S.b 115 rfl rfl) (S.k 115 rfl rfl rfl) rfl (by decide) (by decide) ?_
      refine Go_aload_n (pc' := 90) dX12_gathers_89 rfl rfl rfl ?_
      refine Go_getRs (pc' := 93) dX12_gathers_90 rfl kf_RX12_55 (by decide) (by decide) rfl (S.b 99 rfl rfl) (S.o 99 rfl rfl rfl) (S.r 99 16 rfl rfl rfl) ?_
      refine Go_bipush (v := iZ 7) (pc' := 95) dX12_gathers_93 rfl (by decide) ?_
      refine Go_dup2 (pc' := 96) dX12_gathers_95 rfl rfl rfl ?_
      refine Go_ialoadZ (n := 8) (k := 7) (v := (iZ L)) (pc' := 97) dX12_gathers_96 rfl (S.b 115 rfl rfl) (S.k 115 rfl rfl rfl) rfl (by decide) (by decide) ((vi_skip (Or.inr (by decide))).trans ((vi_skip (Or.inr (by decide))).trans ((vi_setR h 115 u 7).trans U5))) ?_
      refine Go_aload_n (pc' := 98) dX12_gathers_97 rfl rfl rfl ?_
      refine Go_iload_n (pc' := 99) dX12_gathers_98 rfl rfl rfl ?_
      refine Go_iload (pc' := 101) dX12_gathers_99 rfl rfl ?_
      refine Go_callV_i (pc' := 104) (As := [.int _, .int _]) (st := [.int _, .int _, .ref _]) dX12_gathers_101 rfl ok_X12_isClipped km_RX12_167 (S.o 99 rfl rfl rfl) (S.b 99 rfl rfl) ⟨_, _, rfl⟩ rfl (Nat.le_of_ble_eq_true rfl) rfl rfl rfl (Nat.le_of_ble_eq_true rfl) (Nat.lt_succ_self _) ?_
      refine s_clpMD ((((DifS.rf h).setR (by omega)).wI (by omega)).wI (by omega)) S M (by omega) ?_
      refine ⟨_, rfl, ?_⟩
      refine Go_if_eqb (tgt := 111) (pc' := 107) dX12_gathers_104 (by decide) rfl (fun c104 => ?_) (fun c104 => ?_)
      · refine Go_iconst (v := iZ 0) (pc' := 112) dX12_gathers_111 rfl (by decide) ?_
        refine Go_iaddZ (pc' := 113) dX12_gathers_112 rfl ?_
        refine Go_iastoreZ (n := 8) (k := 7) (pc' := 114) dX12_gathers_113 rfl (S.b 115 rfl rfl) (S.k 115 rfl rfl rfl) rfl (by decide) (by decide) ?_
        refine Go_iload (pc' := 116) dX12_gathers_114 rfl rfl ?_
        refine Go_iload_n (pc' := 117) dX12_gathers_116 rfl rfl rfl ?_
        refine Go_icmp_leY (tgt := 168) (pc' := 120) dX12_gathers_117 (by decide) rfl (by first | exact ⟨i_lo _, i_hi _⟩ | omega) (by first | exact ⟨i_lo _, i_hi _⟩ | omega) (fun c117 => ?_) (fun c117 => ?_)
        · refine Go_iincZ (pc' := 171) (lv' := [.ref _, .int _, .int _, .int _, .int _, .int _]) dX12_gathers_168 rfl rfl (Nat.le_of_ble_eq_true rfl) rfl rfl ?_
          refine Go_goto (tgt := 38) dX12_gathers_171 (by decide) ?_
          have e3 : X + 1 - a = X + 1 - a := rfl
          rw [mea_s (P' := (((sap h o X)).natAbs : Int)) (R' := (X - a)) (C' := C) (L' := (L + 0)) (by split <;> omega) (by split <;> omega) (by split <;> omega) (by split <;> omega)] at hk
          rw [setR_wI, setR_wI, setR_wI]
          refine ih (X + 1) _ _ _ _ _ _ (by omega) (by omega) (by omega) (by omega) (by omega) (by omega) ⟨(by simp [upd, U1, U2, U3, U4, U5, iZ_self]), (by simp [upd, U1, U2, U3, U4, U5, iZ_self]), (by simp [upd, U1, U2, U3, U4, U5, iZ_self]), (by simp [upd, U1, U2, U3, U4, U5, iZ_self]), (by simp [upd, U1, U2, U3, U4, U5, iZ_self])⟩ hk
        · refine Go_aload_n (pc' := 121) dX12_gathers_120 rfl rfl rfl ?_
          refine Go_getRs (pc' := 124) dX12_gathers_121 rfl kf_RX12_55 (by decide) (by decide) rfl (S.b 99 rfl rfl) (S.o 99 rfl rfl rfl) (S.r 99 16 rfl rfl rfl) ?_
          refine Go_iconst (v := iZ 5) (pc' := 125) dX12_gathers_124 rfl (by decide) ?_
          refine Go_dup2 (pc' := 126) dX12_gathers_125 rfl rfl rfl ?_
          refine Go_ialoadZ (n := 8) (k := 5) (v := (iZ C)) (pc' := 127) dX12_gathers_126 rfl (S.b 115 rfl rfl) (S.k 115 rfl rfl rfl) rfl (by decide) (by decide) ((vi_skip (Or.inr (by decide))).trans ((vi_skip (Or.inr (by decide))).trans ((vi_skip (Or.inr (by decide))).trans ((vi_setR h 115 u 5).trans U3)))) ?_
          refine Go_iload (pc' := 129) dX12_gathers_127 rfl rfl ?_
          refine Go_if_leY (tgt := 144) (pc' := 132) dX12_gathers_129 (by decide) rfl (by first | exact ⟨i_lo _, i_hi _⟩ | omega) (fun c129 => ?_) (fun c129 => ?_)
          · refine Go_iload (pc' := 146) dX12_gathers_144 rfl rfl ?_
            refine Go_if_geY (tgt := 165) (pc' := 149) dX12_gathers_146 (by decide) rfl (by first | exact ⟨i_lo _, i_hi _⟩ | omega) (fun c146 => ?_) (fun c146 => ?_)
            · refine Go_iconst (v := iZ 0) (pc' := 166) dX12_gathers_165 rfl (by decide) ?_
              refine Go_iaddZ (pc' := 167) dX12_gathers_166 rfl ?_
              refine Go_iastoreZ (n := 8) (k := 5) (pc' := 168) dX12_gathers_167 rfl (S.b 115 rfl rfl) (S.k 115 rfl rfl rfl) rfl (by decide) (by decide) ?_
              refine Go_iincZ (pc' := 171) (lv' := [.ref _, .int _, .int _, .int _, .int _, .int _]) dX12_gathers_168 rfl rfl (Nat.le_of_ble_eq_true rfl) rfl rfl ?_
              refine Go_goto (tgt := 38) dX12_gathers_171 (by decide) ?_
              have e3 : X + 1 - a = X + 1 - a := rfl
              rw [mea_s (P' := (((sap h o X)).natAbs : Int)) (R' := (X - a)) (C' := (C + 0)) (L' := (L + 0)) (by split <;> omega) (by split <;> omega) (by split <;> omega) (by split <;> omega)] at hk
              rw [setR_wI, setR_wI, setR_wI, setR_wI]
              refine ih (X + 1) _ _ _ _ _ _ (by omega) (by omega) (by omega) (by omega) (by omega) (by omega) ⟨(by simp [upd, U1, U2, U3, U4, U5, iZ_self]), (by simp [upd, U1, U2, U3, U4, U5, iZ_self]), (by simp [upd, U1, U2, U3, U4, U5, iZ_self]), (by simp [upd, U1, U2, U3, U4, U5, iZ_self]), (by simp [upd, U1, U2, U3, U4, U5, iZ_self])⟩ hk
            · refine Go_aload_n (pc' := 150) dX12_gathers_149 rfl rfl rfl ?_
              refine Go_iload_n (pc' := 151) dX12_gathers_150 rfl rfl rfl ?_
              refine Go_iload (pc' := 153) dX12_gathers_151 rfl rfl ?_
              refine Go_iconst (v := iZ 1) (pc' := 154) dX12_gathers_153 rfl (by decide) ?_
              refine Go_isubZ (pc' := 155) dX12_gathers_154 rfl ?_
              refine Go_callV_i (pc' := 158) (As := [.int _, .int _]) (st := [.int _, .int _, .ref _]) dX12_gathers_155 rfl ok_X12_sample km_RX12_163 (S.o 99 rfl rfl rfl) (S.b 99 rfl rfl) ⟨_, _, rfl⟩ rfl (Nat.le_of_ble_eq_true rfl) rfl rfl rfl (Nat.le_of_ble_eq_true rfl) (Nat.lt_succ_self _) ?_
              refine s_smpMD (((((DifS.rf h).setR (by omega)).wI (by omega)).wI (by omega)).wI (by omega)) S M (by omega) ?_
              refine ⟨_, rfl, ?_⟩
              refine Go_if_leY (tgt := 165) (pc' := 161) dX12_gathers_158 (by decide) rfl (by first | exact ⟨i_lo _, i_hi _⟩ | omega) (fun c158 => ?_) (fun c158 => ?_)
              · refine Go_iconst (v := iZ 0) (pc' := 166) dX12_gathers_165 rfl (by decide) ?_
                refine Go_iaddZ (pc' := 167) dX12_gathers_166 rfl ?_
                refine Go_iastoreZ (n := 8) (k := 5) (pc' := 168) dX12_gathers_167 rfl (S.b 115 rfl rfl) (S.k 115 rfl rfl rfl) rfl (by decide) (by decide) ?_
                refine Go_iincZ (pc' := 171) (lv' := [.ref _, .int _, .int _, .int _, .int _, .int _]) dX12_gathers_168 rfl rfl (Nat.le_of_ble_eq_true rfl) rfl rfl ?_
                refine Go_goto (tgt := 38) dX12_gathers_171 (by decide) ?_
                have e3 : X + 1 - a = X + 1 - a := rfl
                rw [mea_s (P' := (((sap h o X)).natAbs : Int)) (R' := (X - a)) (C' := (C + 0)) (L' := (L + 0)) (by split <;> omega) (by split <;> omega) (by split <;> omega) (by split <;> omega)] at hk
                rw [setR_wI, setR_wI, setR_wI, setR_wI]
                refine ih (X + 1) _ _ _ _ _ _ (by omega) (by omega) (by omega) (by omega) (by omega) (by omega) ⟨(by simp [upd, U1, U2, U3, U4, U5, iZ_self]), (by simp [upd, U1, U2, U3, U4, U5, iZ_self]), (by simp [upd, U1, U2, U3, U4, U5, iZ_self]), (by simp [upd, U1, U2, U3, U4, U5, iZ_self]), (by simp [upd, U1, U2, U3, U4, U5, iZ_self])⟩ hk
              · refine Go_iconst (v := iZ 1) (pc' := 162) dX12_gathers_161 rfl (by decide) ?_
                refine Go_goto (tgt := 166) dX12_gathers_162 (by decide) ?_
                refine Go_iaddZ (pc' := 167) dX12_gathers_166 rfl ?_
                refine Go_iastoreZ (n := 8) (k := 5) (pc' := 168) dX12_gathers_167 rfl (S.b 115 rfl rfl) (S.k 115 rfl rfl rfl) rfl (by decide) (by decide) ?_
                refine Go_iincZ (pc' := 171) (lv' := [.ref _, .int _, .int _, .int _, .int _, .int _]) dX12_gathers_168 rfl rfl (Nat.le_of_ble_eq_true rfl) rfl rfl ?_
                refine Go_goto (tgt := 38) dX12_gathers_171 (by decide) ?_
                have e3 : X + 1 - a = X + 1 - a := rfl
                rw [mea_s (P' := (((sap h o X)).natAbs : Int)) (R' := (X - a)) (C' := (C + 1)) (L' := (L + 0)) (by split <;> omega) (by split <;> omega) (by split <;> omega) (by split <;> omega)] at hk
                rw [setR_wI, setR_wI, setR_wI, setR_wI]
                refine ih (X + 1) _ _ _ _ _ _ (by omega) (by omega) (by omega) (by omega) (by omega) (by omega) ⟨(by simp [upd, U1, U2, U3, U4, U5, iZ_self]), (by simp [upd, U1, U2, U3, U4, U5, iZ_self]), (by simp [upd, U1, U2, U3, U4, U5, iZ_self]), (by simp [upd, U1, U2, U3, U4, U5, iZ_self]), (by simp [upd, U1, U2, U3, U4, U5, iZ_self])⟩ hk
          · refine Go_aload_n (pc' := 133) dX12_gathers_132 rfl rfl rfl ?_
            refine Go_iload_n (pc' := 134) dX12_gathers_133 rfl rfl rfl ?_
            refine Go_iload (pc' := 136) dX12_gathers_134 rfl rfl ?_
            refine Go_iconst (v := iZ 1) (pc' := 137) dX12_gathers_136 rfl (by decide) ?_
            refine Go_isubZ (pc' := 138) dX12_gathers_137 rfl ?_
            refine Go_callV_i (pc' := 141) (As := [.int _, .int _]) (st := [.int _, .int _, .ref _]) dX12_gathers_138 rfl ok_X12_sample km_RX12_163 (S.o 99 rfl rfl rfl) (S.b 99 rfl rfl) ⟨_, _, rfl⟩ rfl (Nat.le_of_ble_eq_true rfl) rfl rfl rfl (Nat.le_of_ble_eq_true rfl) (Nat.lt_succ_self _) ?_
            refine s_smpMD (((((DifS.rf h).setR (by omega)).wI (by omega)).wI (by omega)).wI (by omega)) S M (by omega) ?_
            refine ⟨_, rfl, ?_⟩
            refine Go_if_ltY (tgt := 161) (pc' := 144) dX12_gathers_141 (by decide) rfl (by first | exact ⟨i_lo _, i_hi _⟩ | omega) (fun c141 => ?_) (fun c141 => ?_)
            · refine Go_iconst (v := iZ 1) (pc' := 162) dX12_gathers_161 rfl (by decide) ?_
              refine Go_goto (tgt := 166) dX12_gathers_162 (by decide) ?_
              refine Go_iaddZ (pc' := 167) dX12_gathers_166 rfl ?_
              refine Go_iastoreZ (n := 8) (k := 5) (pc' := 168) dX12_gathers_167 rfl (S.b 115 rfl rfl) (S.k 115 rfl rfl rfl) rfl (by decide) (by decide) ?_
              refine Go_iincZ (pc' := 171) (lv' := [.ref _, .int _, .int _, .int _, .int _, .int _]) dX12_gathers_168 rfl rfl (Nat.le_of_ble_eq_true rfl) rfl rfl ?_
              refine Go_goto (tgt := 38) dX12_gathers_171 (by decide) ?_
              have e3 : X + 1 - a = X + 1 - a := rfl
              rw [mea_s (P' := (((sap h o X)).natAbs : Int)) (R' := (X - a)) (C' := (C + 1)) (L' := (L + 0)) (by split <;> omega) (by split <;> omega) (by split <;> omega) (by split <;> omega)] at hk
              rw [setR_wI, setR_wI, setR_wI, setR_wI]
              refine ih (X + 1) _ _ _ _ _ _ (by omega) (by omega) (by omega) (by omega) (by omega) (by omega) ⟨(by simp [upd, U1, U2, U3, U4, U5, iZ_self]), (by simp [upd, U1, U2, U3, U4, U5, iZ_self]), (by simp [upd, U1, U2, U3, U4, U5, iZ_self]), (by simp [upd, U1, U2, U3, U4, U5, iZ_self]), (by simp [upd, U1, U2, U3, U4, U5, iZ_self])⟩ hk
            · refine Go_iload (pc' := 146) dX12_gathers_144 rfl rfl ?_
              refine Go_if_geY (tgt := 165) (pc' := 149) dX12_gathers_146 (by decide) rfl (by first | exact ⟨i_lo _, i_hi _⟩ | omega) (fun c146 => ?_) (fun c146 => ?_)
              · refine Go_iconst (v := iZ 0) (pc' := 166) dX12_gathers_165 rfl (by decide) ?_
                refine Go_iaddZ (pc' := 167) dX12_gathers_166 rfl ?_
                refine Go_iastoreZ (n := 8) (k := 5) (pc' := 168) dX12_gathers_167 rfl (S.b 115 rfl rfl) (S.k 115 rfl rfl rfl) rfl (by decide) (by decide) ?_
                refine Go_iincZ (pc' := 171) (lv' := [.ref _, .int _, .int _, .int _, .int _, .int _]) dX12_gathers_168 rfl rfl (Nat.le_of_ble_eq_true rfl) rfl rfl ?_
                refine Go_goto (tgt := 38) dX12_gathers_171 (by decide) ?_
                have e3 : X + 1 - a = X + 1 - a := rfl
                rw [mea_s (P' := (((sap h o X)).natAbs : Int)) (R' := (X - a)) (C' := (C + 0)) (L' := (L + 0)) (by split <;> omega) (by split <;> omega) (by split <;> omega) (by split <;> omega)] at hk
                rw [setR_wI, setR_wI, setR_wI, setR_wI]
                refine ih (X + 1) _ _ _ _ _ _ (by omega) (by omega) (by omega) (by omega) (by omega) (by omega) ⟨(by simp [upd, U1, U2, U3, U4, U5, iZ_self]), (by simp [upd, U1, U2, U3, U4, U5, iZ_self]), (by simp [upd, U1, U2, U3, U4, U5, iZ_self]), (by simp [upd, U1, U2, U3, U4, U5, iZ_self]), (by simp [upd, U1, U2, U3, U4, U5, iZ_self])⟩ hk
              · refine Go_aload_n (pc' := 150) dX12_gathers_149 rfl rfl rfl ?_
                refine Go_iload_n (pc' := 151) dX12_gathers_150 rfl rfl rfl ?_
                refine Go_iload (pc' := 153) dX12_gathers_151 rfl rfl ?_
                refine Go_iconst (v := iZ 1) (pc' := 154) dX12_gathers_153 rfl (by decide) ?_
                refine Go_isubZ (pc' := 155) dX12_gathers_154 rfl ?_
                refine Go_callV_i (pc' := 158) (As := [.int _, .int _]) (st := [.int _, .int _, .ref _]) dX12_gathers_155 rfl ok_X12_sample km_RX12_163 (S.o 99 rfl rfl rfl) (S.b 99 rfl rfl) ⟨_, _, rfl⟩ rfl (Nat.le_of_ble_eq_true rfl) rfl rfl rfl (Nat.le_of_ble_eq_true rfl) (Nat.lt_succ_self _) ?_
                refine s_smpMD (((((DifS.rf h).setR (by omega)).wI (by omega)).wI (by omega)).wI (by omega)) S M (by omega) ?_
                refine ⟨_, rfl, ?_⟩
                refine Go_if_leY (tgt := 165) (pc' := 161) dX12_gathers_158 (by decide) rfl (by first | exact ⟨i_lo _, i_hi _⟩ | omega) (fun c158 => ?_) (fun c158 => ?_)
                · refine Go_iconst (v := iZ 0) (pc' := 166) dX12_gathers_165 rfl (by decide) ?_
                  refine Go_iaddZ (pc' := 167) dX12_gathers_166 rfl ?_
                  refine Go_iastoreZ (n := 8) (k := 5) (pc' := 168) dX12_gathers_167 rfl (S.b 115 rfl rfl) (S.k 115 rfl rfl rfl) rfl (by decide) (by decide) ?_
                  refine Go_iincZ (pc' := 171) (lv' := [.ref _, .int _, .int _, .int _, .int _, .int _]) dX12_gathers_168 rfl rfl (Nat.le_of_ble_eq_true rfl) rfl rfl ?_
                  refine Go_goto (tgt := 38) dX12_gathers_171 (by decide) ?_
                  have e3 : X + 1 - a = X + 1 - a := rfl
                  rw [mea_s (P' := (((sap h o X)).natAbs : Int)) (R' := (X - a)) (C' := (C + 0)) (L' := (L + 0)) (by split <;> omega) (by split <;> omega) (by split <;> omega) (by split <;> omega)] at hk
                  rw [setR_wI, setR_wI, setR_wI, setR_wI]
                  refine ih (X + 1) _ _ _ _ _ _ (by omega) (by omega) (by omega) (by omega) (by omega) (by omega) ⟨(by simp [upd, U1, U2, U3, U4, U5, iZ_self]), (by simp [upd, U1, U2, U3, U4, U5, iZ_self]), (by simp [upd, U1, U2, U3, U4, U5, iZ_self]), (by simp [upd, U1, U2, U3, U4, U5, iZ_self]), (by simp [upd, U1, U2, U3, U4, U5, iZ_self])⟩ hk
                · refine Go_iconst (v := iZ 1) (pc' := 162) dX12_gathers_161 rfl (by decide) ?_
                  refine Go_goto (tgt := 166) dX12_gathers_162 (by decide) ?_
                  refine Go_iaddZ (pc' := 167) dX12_gathers_166 rfl ?_
                  refine Go_iastoreZ (n := 8) (k := 5) (pc' := 168) dX12_gathers_167 rfl (S.b 115 rfl rfl) (S.k 115 rfl rfl rfl) rfl (by decide) (by decide) ?_
                  refine Go_iincZ (pc' := 171) (lv' := [.ref _, .int _, .int _, .int _, .int _, .int _]) dX12_gathers_168 rfl rfl (Nat.le_of_ble_eq_true rfl) rfl rfl ?_
                  refine Go_goto (tgt := 38) dX12_gathers_171 (by decide) ?_
                  have e3 : X + 1 - a = X + 1 - a := rfl
                  rw [mea_s (P' := (((sap h o X)).natAbs : Int)) (R' := (X - a)) (C' := (C + 1)) (L' := (L + 0)) (by split <;> omega) (by split <;> omega) (by split <;> omega) (by split <;> omega)] at hk
                  rw [setR_wI, setR_wI, setR_wI, setR_wI]
                  refine ih (X + 1) _ _ _ _ _ _ (by omega) (by omega) (by omega) (by omega) (by omega) (by omega) ⟨(by simp [upd, U1, U2, U3, U4, U5, iZ_self]), (by simp [upd, U1, U2, U3, U4, U5, iZ_self]), (by simp [upd, U1, U2, U3, U4, U5, iZ_self]), (by simp [upd, U1, U2, U3, U4, U5, iZ_self]), (by simp [upd, U1, U2, U3, U4, U5, iZ_self])⟩ hk
      · refine Go_iconst (v := iZ 1) (pc' := 108) dX12_gathers_107 rfl (by decide) ?_
        refine Go_goto (tgt := 112) dX12_gathers_108 (by decide) ?_
        refine Go_iaddZ (pc' := 113) dX12_gathers_112 rfl ?_
        refine Go_iastoreZ (n := 8) (k := 7) (pc' := 114) dX12_gathers_113 rfl (S.b 115 rfl rfl) (S.k 115 rfl rfl rfl) rfl (by decide) (by decide) ?_
        refine Go_iload (pc' := 116) dX12_gathers_114 rfl rfl ?_
        refine Go_iload_n (pc' := 117) dX12_gathers_116 rfl rfl rfl ?_
        refine Go_icmp_leY (tgt := 168) (pc' := 120) dX12_gathers_117 (by decide) rfl (by first | exact ⟨i_lo _, i_hi _⟩ | omega) (by first | exact ⟨i_lo _, i_hi _⟩ | omega) (fun c117 => ?_) (fun c117 => ?_)
        · refine Go_iincZ (pc' := 171) (lv' := [.ref _, .int _, .int _, .int _, .int _, .int _]) dX12_gathers_168 rfl rfl (Nat.le_of_ble_eq_true rfl) rfl rfl ?_
          refine Go_goto (tgt := 38) dX12_gathers_171 (by decide) ?_
          have e3 : X + 1 - a = X + 1 - a := rfl
          rw [mea_s (P' := (((sap h o X)).natAbs : Int)) (R' := (X - a)) (C' := C) (L' := (L + 1)) (by split <;> omega) (by split <;> omega) (by split <;> omega) (by split <;> omega)] at hk
          rw [setR_wI, setR_wI, setR_wI]
          refine ih (X + 1) _ _ _ _ _ _ (by omega) (by omega) (by omega) (by omega) (by omega) (by omega) ⟨(by simp [upd, U1, U2, U3, U4, U5, iZ_self]), (by simp [upd, U1, U2, U3, U4, U5, iZ_self]), (by simp [upd, U1, U2, U3, U4, U5, iZ_self]), (by simp [upd, U1, U2, U3, U4, U5, iZ_self]), (by simp [upd, U1, U2, U3, U4, U5, iZ_self])⟩ hk
        · refine Go_aload_n (pc' := 121) dX12_gathers_120 rfl rfl rfl ?_
          refine Go_getRs (pc' := 124) dX12_gathers_121 rfl kf_RX12_55 (by decide) (by decide) rfl (S.b 99 rfl rfl) (S.o 99 rfl rfl rfl) (S.r 99 16 rfl rfl rfl) ?_
          refine Go_iconst (v := iZ 5) (pc' := 125) dX12_gathers_124 rfl (by decide) ?_
          refine Go_dup2 (pc' := 126) dX12_gathers_125 rfl rfl rfl ?_
          refine Go_ialoadZ (n := 8) (k := 5) (v := (iZ C)) (pc' := 127) dX12_gathers_126 rfl (S.b 115 rfl rfl) (S.k 115 rfl rfl rfl) rfl (by decide) (by decide) ((vi_skip (Or.inr (by decide))).trans ((vi_skip (Or.inr (by decide))).trans ((vi_skip (Or.inr (by decide))).trans ((vi_setR h 115 u 5).trans U3)))) ?_
          refine Go_iload (pc' := 129) dX12_gathers_127 rfl rfl ?_
          refine Go_if_leY (tgt := 144) (pc' := 132) dX12_gathers_129 (by decide) rfl (by first | exact ⟨i_lo _, i_hi _⟩ | omega) (fun c129 => ?_) (fun c129 => ?_)
          · refine Go_iload (pc' := 146) dX12_gathers_144 rfl rfl ?_
            refine Go_if_geY (tgt := 165) (pc' := 149) dX12_gathers_146 (by decide) rfl (by first | exact ⟨i_lo _, i_hi _⟩ | omega) (fun c146 => ?_) (fun c146 => ?_)
            · refine Go_iconst (v := iZ 0) (pc' := 166) dX12_gathers_165 rfl (by decide) ?_
              refine Go_iaddZ (pc' := 167) dX12_gathers_166 rfl ?_
              refine Go_iastoreZ (n := 8) (k := 5) (pc' := 168) dX12_gathers_167 rfl (S.b 115 rfl rfl) (S.k 115 rfl rfl rfl) rfl (by decide) (by decide) ?_
              refine Go_iincZ (pc' := 171) (lv' := [.ref _, .int _, .int _, .int _, .int _, .int _]) dX12_gathers_168 rfl rfl (Nat.le_of_ble_eq_true rfl) rfl rfl ?_
              refine Go_goto (tgt := 38) dX12_gathers_171 (by decide) ?_
              have e3 : X + 1 - a = X + 1 - a := rfl
              rw [mea_s (P' := (((sap h o X)).natAbs : Int)) (R' := (X - a)) (C' := (C + 0)) (L' := (L + 1)) (by split <;> omega) (by split <;> omega) (by split <;> omega) (by split <;> omega)] at hk
              rw [setR_wI, setR_wI, setR_wI, setR_wI]
              refine ih (X + 1) _ _ _ _ _ _ (by omega) (by omega) (by omega) (by omega) (by omega) (by omega) ⟨(by simp [upd, U1, U2, U3, U4, U5, iZ_self]), (by simp [upd, U1, U2, U3, U4, U5, iZ_self]), (by simp [upd, U1, U2, U3, U4, U5, iZ_self]), (by simp [upd, U1, U2, U3, U4, U5, iZ_self]), (by simp [upd, U1, U2, U3, U4, U5, iZ_self])⟩ hk
            · refine Go_aload_n (pc' := 150) dX12_gathers_149 rfl rfl rfl ?_
              refine Go_iload_n (pc' := 151) dX12_gathers_150 rfl rfl rfl ?_
              refine Go_iload (pc' := 153) dX12_gathers_151 rfl rfl ?_
              refine Go_iconst (v := iZ 1) (pc' := 154) dX12_gathers_153 rfl (by decide) ?_
              refine Go_isubZ (pc' := 155) dX12_gathers_154 rfl ?_
              refine Go_callV_i (pc' := 158) (As := [.int _, .int _]) (st := [.int _, .int _, .ref _]) dX12_gathers_155 rfl ok_X12_sample km_RX12_163 (S.o 99 rfl rfl rfl) (S.b 99 rfl rfl) ⟨_, _, rfl⟩ rfl (Nat.le_of_ble_eq_true rfl) rfl rfl rfl (Nat.le_of_ble_eq_true rfl) (Nat.lt_succ_self _) ?_
              refine s_smpMD (((((DifS.rf h).setR (by omega)).wI (by omega)).wI (by omega)).wI (by omega)) S M (by omega) ?_
              refine ⟨_, rfl, ?_⟩
              refine Go_if_leY (tgt := 165) (pc' := 161) dX12_gathers_158 (by decide) rfl (by first | exact ⟨i_lo _, i_hi _⟩ | omega) (fun c158 => ?_) (fun c158 => ?_)
              · refine Go_iconst (v := iZ 0) (pc' := 166) dX12_gathers_165 rfl (by decide) ?_
                refine Go_iaddZ (pc' := 167) dX12_gathers_166 rfl ?_
                refine Go_iastoreZ (n := 8) (k := 5) (pc' := 168) dX12_gathers_167 rfl (S.b 115 rfl rfl) (S.k 115 rfl rfl rfl) rfl (by decide) (by decide) ?_
                refine Go_iincZ (pc' := 171) (lv' := [.ref _, .int _, .int _, .int _, .int _, .int _]) dX12_gathers_168 rfl rfl (Nat.le_of_ble_eq_true rfl) rfl rfl ?_
                refine Go_goto (tgt := 38) dX12_gathers_171 (by decide) ?_
                have e3 : X + 1 - a = X + 1 - a := rfl
                rw [mea_s (P' := (((sap h o X)).natAbs : Int)) (R' := (X - a)) (C' := (C + 0)) (L' := (L + 1)) (by split <;> omega) (by split <;> omega) (by split <;> omega) (by split <;> omega)] at hk
                rw [setR_wI, setR_wI, setR_wI, setR_wI]
                refine ih (X + 1) _ _ _ _ _ _ (by omega) (by omega) (by omega) (by omega) (by omega) (by omega) ⟨(by simp [upd, U1, U2, U3, U4, U5, iZ_self]), (by simp [upd, U1, U2, U3, U4, U5, iZ_self]), (by simp [upd, U1, U2, U3, U4, U5, iZ_self]), (by simp [upd, U1, U2, U3, U4, U5, iZ_self]), (by simp [upd, U1, U2, U3, U4, U5, iZ_self])⟩ hk
              · refine Go_iconst (v := iZ 1) (pc' := 162) dX12_gathers_161 rfl (by decide) ?_
                refine Go_goto (tgt := 166) dX12_gathers_162 (by decide) ?_
                refine Go_iaddZ (pc' := 167) dX12_gathers_166 rfl ?_
                refine Go_iastoreZ (n := 8) (k := 5) (pc' := 168) dX12_gathers_167 rfl (S.b 115 rfl rfl) (S.k 115 rfl rfl rfl) rfl (by decide) (by decide) ?_
                refine Go_iincZ (pc' := 171) (lv' := [.ref _, .int _, .int _, .int _, .int _, .int _]) dX12_gathers_168 rfl rfl (Nat.le_of_ble_eq_true rfl) rfl rfl ?_
                refine Go_goto (tgt := 38) dX12_gathers_171 (by decide) ?_
                have e3 : X + 1 - a = X + 1 - a := rfl
                rw [mea_s (P' := (((sap h o X)).natAbs : Int)) (R' := (X - a)) (C' := (C + 1)) (L' := (L + 1)) (by split <;> omega) (by split <;> omega) (by split <;> omega) (by split <;> omega)] at hk
                rw [setR_wI, setR_wI, setR_wI, setR_wI]
                refine ih (X + 1) _ _ _ _ _ _ (by omega) (by omega) (by omega) (by omega) (by omega) (by omega) ⟨(by simp [upd, U1, U2, U3, U4, U5, iZ_self]), (by simp [upd, U1, U2, U3, U4, U5, iZ_self]), (by simp [upd, U1, U2, U3, U4, U5, iZ_self]), (by simp [upd, U1, U2, U3, U4, U5, iZ_self]), (by simp [upd, U1, U2, U3, U4, U5, iZ_self])⟩ hk
          · refine Go_aload_n (pc' := 133) dX12_gathers_132 rfl rfl rfl ?_
            refine Go_iload_n (pc' := 134) dX12_gathers_133 rfl rfl rfl ?_
            refine Go_iload (pc' := 136) dX12_gathers_134 rfl rfl ?_
            refine Go_iconst (v := iZ 1) (pc' := 137) dX12_gathers_136 rfl (by decide) ?_
            refine Go_isubZ (pc' := 138) dX12_gathers_137 rfl ?_
            refine Go_callV_i (pc' := 141) (As := [.int _, .int _]) (st := [.int _, .int _, .ref _]) dX12_gathers_138 rfl ok_X12_sample km_RX12_163 (S.o 99 rfl rfl rfl) (S.b 99 rfl rfl) ⟨_, _, rfl⟩ rfl (Nat.le_of_ble_eq_true rfl) rfl rfl rfl (Nat.le_of_ble_eq_true rfl) (Nat.lt_succ_self _) ?_
            refine s_smpMD (((((DifS.rf h).setR (by omega)).wI (by omega)).wI (by omega)).wI (by omega)) S M (by omega) ?_
            refine ⟨_, rfl, ?_⟩
            refine Go_if_ltY (tgt := 161) (pc' := 144) dX12_gathers_141 (by decide) rfl (by first | exact ⟨i_lo _, i_hi _⟩ | omega) (fun c141 => ?_) (fun c141 => ?_)
            · refine Go_iconst (v := iZ 1) (pc' := 162) dX12_gathers_161 rfl (by decide) ?_
              refine Go_goto (tgt := 166) dX12_gathers_162 (by decide) ?_
              refine Go_iaddZ (pc' := 167) dX12_gathers_166 rfl ?_
              refine Go_iastoreZ (n := 8) (k := 5) (pc' := 168) dX12_gathers_167 rfl (S.b 115 rfl rfl) (S.k 115 rfl rfl rfl) rfl (by decide) (by decide) ?_
              refine Go_iincZ (pc' := 171) (lv' := [.ref _, .int _, .int _, .int _, .int _, .int _]) dX12_gathers_168 rfl rfl (Nat.le_of_ble_eq_true rfl) rfl rfl ?_
              refine Go_goto (tgt := 38) dX12_gathers_171 (by decide) ?_
              have e3 : X + 1 - a = X + 1 - a := rfl
              rw [mea_s (P' := (((sap h o X)).natAbs : Int)) (R' := (X - a)) (C' := (C + 1)) (L' := (L + 1)) (by split <;> omega) (by split <;> omega) (by split <;> omega) (by split <;> omega)] at hk
              rw [setR_wI, setR_wI, setR_wI, setR_wI]
              refine ih (X + 1) _ _ _ _ _ _ (by omega) (by omega) (by omega) (by omega) (by omega) (by omega) ⟨(by simp [upd, U1, U2, U3, U4, U5, iZ_self]), (by simp [upd, U1, U2, U3, U4, U5, iZ_self]), (by simp [upd, U1, U2, U3, U4, U5, iZ_self]), (by simp [upd, U1, U2, U3, U4, U5, iZ_self]), (by simp [upd, U1, U2, U3, U4, U5, iZ_self])⟩ hk
            · refine Go_iload (pc' := 146) dX12_gathers_144 rfl rfl ?_
              refine Go_if_geY (tgt := 165) (pc' := 149) dX12_gathers_146 (by decide) rfl (by first | exact ⟨i_lo _, i_hi _⟩ | omega) (fun c146 => ?_) (fun c146 => ?_)
              · refine Go_iconst (v := iZ 0) (pc' := 166) dX12_gathers_165 rfl (by decide) ?_
                refine Go_iaddZ (pc' := 167) dX12_gathers_166 rfl ?_
                refine Go_iastoreZ (n := 8) (k := 5) (pc' := 168) dX12_gathers_167 rfl (S.b 115 rfl rfl) (S.k 115 rfl rfl rfl) rfl (by decide) (by decide) ?_
                refine Go_iincZ (pc' := 171) (lv' := [.ref _, .int _, .int _, .int _, .int _, .int _]) dX12_gathers_168 rfl rfl (Nat.le_of_ble_eq_true rfl) rfl rfl ?_
                refine Go_goto (tgt := 38) dX12_gathers_171 (by decide) ?_
                have e3 : X + 1 - a = X + 1 - a := rfl
                rw [mea_s (P' := (((sap h o X)).natAbs : Int)) (R' := (X - a)) (C' := (C + 0)) (L' := (L + 1)) (by split <;> omega) (by split <;> omega) (by split <;> omega) (by split <;> omega)] at hk
                rw [setR_wI, setR_wI, setR_wI, setR_wI]
                refine ih (X + 1) _ _ _ _ _ _ (by omega) (by omega) (by omega) (by omega) (by omega) (by omega) ⟨(by simp [upd, U1, U2, U3, U4, U5, iZ_self]), (by simp [upd, U1, U2, U3, U4, U5, iZ_self]), (by simp [upd, U1, U2, U3, U4, U5, iZ_self]), (by simp [upd, U1, U2, U3, U4, U5, iZ_self]), (by simp [upd, U1, U2, U3, U4, U5, iZ_self])⟩ hk
              · refine Go_aload_n (pc' := 150) dX12_gathers_149 rfl rfl rfl ?_
                refine Go_iload_n (pc' := 151) dX12_gathers_150 rfl rfl rfl ?_
                refine Go_iload (pc' := 153) dX12_gathers_151 rfl rfl ?_
                refine Go_iconst (v := iZ 1) (pc' := 154) dX12_gathers_153 rfl (by decide) ?_
                refine Go_isubZ (pc' := 155) dX12_gathers_154 rfl ?_
                refine Go_callV_i (pc' := 158) (As := [.int _, .int _]) (st := [.int _, .int _, .ref _]) dX12_gathers_155 rfl ok_X12_sample km_RX12_163 (S.o 99 rfl rfl rfl) (S.b 99 rfl rfl) ⟨_, _, rfl⟩ rfl (Nat.le_of_ble_eq_true rfl) rfl rfl rfl (Nat.le_of_ble_eq_true rfl) (Nat.lt_succ_self _) ?_
                refine s_smpMD (((((DifS.rf h).setR (by omega)).wI (by omega)).wI (by omega)).wI (by omega)) S M (by omega) ?_
                refine ⟨_, rfl, ?_⟩
                refine Go_if_leY (tgt := 165) (pc' := 161) dX12_gathers_158 (by decide) rfl (by first | exact ⟨i_lo _, i_hi _⟩ | omega) (fun c158 => ?_) (fun c158 => ?_)
                · refine Go_iconst (v := iZ 0) (pc' := 166) dX12_gathers_165 rfl (by decide) ?_
                  refine Go_iaddZ (pc' := 167) dX12_gathers_166 rfl ?_
                  refine Go_iastoreZ (n := 8) (k := 5) (pc' := 168) dX12_gathers_167 rfl (S.b 115 rfl rfl) (S.k 115 rfl rfl rfl) rfl (by decide) (by decide) ?_
                  refine Go_iincZ (pc' := 171) (lv' := [.ref _, .int _, .int _, .int _, .int _, .int _]) dX12_gathers_168 rfl rfl (Nat.le_of_ble_eq_true rfl) rfl rfl ?_
                  refine Go_goto (tgt := 38) dX12_gathers_171 (by decide) ?_
                  have e3 : X + 1 - a = X + 1 - a := rfl
                  rw [mea_s (P' := (((sap h o X)).natAbs : Int)) (R' := (X - a)) (C' := (C + 0)) (L' := (L + 1)) (by split <;> omega) (by split <;> omega) (by split <;> omega) (by split <;> omega)] at hk
                  rw [setR_wI, setR_wI, setR_wI, setR_wI]
                  refine ih (X + 1) _ _ _ _ _ _ (by omega) (by omega) (by omega) (by omega) (by omega) (by omega) ⟨(by simp [upd, U1, U2, U3, U4, U5, iZ_self]), (by simp [upd, U1, U2, U3, U4, U5, iZ_self]), (by simp [upd, U1, U2, U3, U4, U5, iZ_self]), (by simp [upd, U1, U2, U3, U4, U5, iZ_self]), (by simp [upd, U1, U2, U3, U4, U5, iZ_self])⟩ hk
                · refine Go_iconst (v := iZ 1) (pc' := 162) dX12_gathers_161 rfl (by decide) ?_
                  refine Go_goto (tgt := 166) dX12_gathers_162 (by decide) ?_
                  refine Go_iaddZ (pc' := 167) dX12_gathers_166 rfl ?_
                  refine Go_iastoreZ (n := 8) (k := 5) (pc' := 168) dX12_gathers_167 rfl (S.b 115 rfl rfl) (S.k 115 rfl rfl rfl) rfl (by decide) (by decide) ?_
                  refine Go_iincZ (pc' := 171) (lv' := [.ref _, .int _, .int _, .int _, .int _, .int _]) dX12_gathers_168 rfl rfl (Nat.le_of_ble_eq_true rfl) rfl rfl ?_
                  refine Go_goto (tgt := 38) dX12_gathers_171 (by decide) ?_
                  have e3 : X + 1 - a = X + 1 - a := rfl
                  rw [mea_s (P' := (((sap h o X)).natAbs : Int)) (R' := (X - a)) (C' := (C + 1)) (L' := (L + 1)) (by split <;> omega) (by split <;> omega) (by split <;> omega) (by split <;> omega)] at hk
                  rw [setR_wI, setR_wI, setR_wI, setR_wI]
                  refine ih (X + 1) _ _ _ _ _ _ (by omega) (by omega) (by omega) (by omega) (by omega) (by omega) ⟨(by simp [upd, U1, U2, U3, U4, U5, iZ_self]), (by simp [upd, U1, U2, U3, U4, U5, iZ_self]), (by simp [upd, U1, U2, U3, U4, U5, iZ_self]), (by simp [upd, U1, U2, U3, U4, U5, iZ_self]), (by simp [upd, U1, U2, U3, U4, U5, iZ_self])⟩ hk
set_option maxRecDepth 20000 in
set_option maxHeartbeats 1000000 in
theorem s_ga {G : GC} {d mc ms : Nat} {h : HS} {K : Option Value → HS → Prop} {j o n : Nat} {a b : Int} (S : Shp h) (M : Smp h j o n) (w : wh h o n a b) (hk : ∀ u, Uf u (b - a + 1) (ME h o a b) → K none (setR h 115 u)) : Go G (d + 2) mc ms M_X12_gathers 0 [.ref 99, .int (iZ (j : Int)), .int (iZ a), .int (iZ b), un, un] [] h K := by
  have CS := M.2.1
  have hn := M.n
  have hj6 := M.j
  have hq0 := CS.1
  have w1 := w.1
  refine Go_iconst (v := iZ 3) (pc' := 1) dX12_gathers_0 rfl (by decide) ?_
  refine Go_istore (pc' := 3) (lv' := [.ref _, .int _, .int _, .int _, .int _, un]) dX12_gathers_1 rfl (Nat.le_of_ble_eq_true rfl) rfl rfl ?_
  refine Go_iload (pc' := 5) dX12_gathers_3 rfl rfl ?_
  refine Go_bipush (v := iZ 7) (pc' := 7) dX12_gathers_5 rfl (by decide) ?_
  refine Go_icmp_gtY (tgt := 24) (pc' := 10) dX12_gathers_7 (by decide) rfl (by first | exact ⟨i_lo _, i_hi _⟩ | omega) (by first | exact ⟨i_lo _, i_hi _⟩ | omega) (fun c7 => by exfalso; omega) (fun c7 => ?_)
  refine Go_aload_n (pc' := 11) dX12_gathers_10 rfl rfl rfl ?_
  refine Go_getRs (pc' := 14) dX12_gathers_11 rfl kf_RX12_55 (by decide) (by decide) rfl (S.b 99 rfl rfl) (S.o 99 rfl rfl rfl) (S.r 99 16 rfl rfl rfl) ?_
  refine Go_iload (pc' := 16) dX12_gathers_14 rfl rfl ?_
  refine Go_iconst (v := iZ 0) (pc' := 17) dX12_gathers_16 rfl (by decide) ?_
  refine Go_iastoreZ (n := 8) (k := 3) (pc' := 18) dX12_gathers_17 rfl (S.b 115 rfl rfl) (S.k 115 rfl rfl rfl) rfl (by decide) (by decide) ?_
  refine Go_iinc (pc' := 21) (v := iZ 4) (lv' := [.ref _, .int _, .int _, .int _, .int _, un]) dX12_gathers_18 rfl rfl (by decide) (Nat.le_of_ble_eq_true rfl) rfl rfl ?_
  refine Go_goto (tgt := 3) dX12_gathers_21 (by decide) ?_
  refine Go_iload (pc' := 5) dX12_gathers_3 rfl rfl ?_
  refine Go_bipush (v := iZ 7) (pc' := 7) dX12_gathers_5 rfl (by decide) ?_
  refine Go_icmp_gtY (tgt := 24) (pc' := 10) dX12_gathers_7 (by decide) rfl (by first | exact ⟨i_lo _, i_hi _⟩ | omega) (by first | exact ⟨i_lo _, i_hi _⟩ | omega) (fun c7 => by exfalso; omega) (fun c7 => ?_)
  refine Go_aload_n (pc' := 11) dX12_gathers_10 rfl rfl rfl ?_
  refine Go_getRs (pc' := 14) dX12_gathers_11 rfl kf_RX12_55 (by decide) (by decide) rfl (S.b 99 rfl rfl) (S.o 99 rfl rfl rfl) (S.r 99 16 rfl rfl rfl) ?_
  refine Go_iload (pc' := 16) dX12_gathers_14 rfl rfl ?_
  refine Go_iconst (v := iZ 0) (pc' := 17) dX12_gathers_16 rfl (by decide) ?_
  refine Go_iastoreZ (n := 8) (k := 4) (pc' := 18) dX12_gathers_17 rfl (S.b 115 rfl rfl) (S.k 115 rfl rfl rfl) rfl (by decide) (by decide) ?_
  refine Go_iinc (pc' := 21) (v := iZ 5) (lv' := [.ref _, .int _, .int _, .int _, .int _, un]) dX12_gathers_18 rfl rfl (by decide) (Nat.le_of_ble_eq_true rfl) rfl rfl ?_
  refine Go_goto (tgt := 3) dX12_gathers_21 (by decide) ?_
  refine Go_iload (pc' := 5) dX12_gathers_3 rfl rfl ?_
  refine Go_bipush (v := iZ 7) (pc' := 7) dX12_gathers_5 rfl (by decide) ?_
  refine Go_icmp_gtY (tgt := 24) (pc' := 10) dX12_gathers_7 (by decide) rfl (by first | exact ⟨i_lo _, i_hi _⟩ | omega) (by first | exact ⟨i_lo _, i_hi _⟩ | omega) (fun c7 => by exfalso; omega) (fun c7 => ?_)
  refine Go_aload_n (pc' := 11) dX12_gathers_10 rfl rfl rfl ?_
  refine Go_getRs (pc' := 14) dX12_gathers_11 rfl kf_RX12_55 (by decide) (by decide) rfl (S.b 99 rfl rfl) (S.o 99 rfl rfl rfl) (S.r 99 16 rfl rfl rfl) ?_
  refine Go_iload (pc' := 16) dX12_gathers_14 rfl rfl ?_
  refine Go_iconst (v := iZ 0) (pc' := 17) dX12_gathers_16 rfl (by decide) ?_
  refine Go_iastoreZ (n := 8) (k := 5) (pc' := 18) dX12_gathers_17 rfl (S.b 115 rfl rfl) (S.k 115 rfl rfl rfl) rfl (by decide) (by decide) ?_
  refine Go_iinc (pc' := 21) (v := iZ 6) (lv' := [.ref _, .int _, .int _, .int _, .int _, un]) dX12_gathers_18 rfl rfl (by decide) (Nat.le_of_ble_eq_true rfl) rfl rfl ?_
  refine Go_goto (tgt := 3) dX12_gathers_21 (by decide) ?_
  refine Go_iload (pc' := 5) dX12_gathers_3 rfl rfl ?_
  refine Go_bipush (v := iZ 7) (pc' := 7) dX12_gathers_5 rfl (by decide) ?_
  refine Go_icmp_gtY (tgt := 24) (pc' := 10) dX12_gathers_7 (by decide) rfl (by first | exact ⟨i_lo _, i_hi _⟩ | omega) (by first | exact ⟨i_lo _, i_hi _⟩ | omega) (fun c7 => by exfalso; omega) (fun c7 => ?_)
  refine Go_aload_n (pc' := 11) dX12_gathers_10 rfl rfl rfl ?_
  refine Go_getRs (pc' := 14) dX12_gathers_11 rfl kf_RX12_55 (by decide) (by decide) rfl (S.b 99 rfl rfl) (S.o 99 rfl rfl rfl) (S.r 99 16 rfl rfl rfl) ?_
  refine Go_iload (pc' := 16) dX12_gathers_14 rfl rfl ?_
  refine Go_iconst (v := iZ 0) (pc' := 17) dX12_gathers_16 rfl (by decide) ?_
  refine Go_iastoreZ (n := 8) (k := 6) (pc' := 18) dX12_gathers_17 rfl (S.b 115 rfl rfl) (S.k 115 rfl rfl rfl) rfl (by decide) (by decide) ?_
  refine Go_iinc (pc' := 21) (v := iZ 7) (lv' := [.ref _, .int _, .int _, .int _, .int _, un]) dX12_gathers_18 rfl rfl (by decide) (Nat.le_of_ble_eq_true rfl) rfl rfl ?_
  refine Go_goto (tgt := 3) dX12_gathers_21 (by decide) ?_
  refine Go_iload (pc' := 5) dX12_gathers_3 rfl rfl ?_
  refine Go_bipush (v := iZ 7) (pc' := 7) dX12_gathers_5 rfl (by decide) ?_
  refine Go_icmp_gtY (tgt := 24) (pc' := 10) dX12_gathers_7 (by decide) rfl (by first | exact ⟨i_lo _, i_hi _⟩ | omega) (by first | exact ⟨i_lo _, i_hi _⟩ | omega) (fun c7 => by exfalso; omega) (fun c7 => ?_)
  refine Go_aload_n (pc' := 11) dX12_gathers_10 rfl rfl rfl ?_
  refine Go_getRs (pc' := 14) dX12_gathers_11 rfl kf_RX12_55 (by decide) (by decide) rfl (S.b 99 rfl rfl) (S.o 99 rfl rfl rfl) (S.r 99 16 rfl rfl rfl) ?_
  refine Go_iload (pc' := 16) dX12_gathers_14 rfl rfl ?_
  refine Go_iconst (v := iZ 0) (pc' := 17) dX12_gathers_16 rfl (by decide) ?_
  refine Go_iastoreZ (n := 8) (k := 7) (pc' := 18) dX12_gathers_17 rfl (S.b 115 rfl rfl) (S.k 115 rfl rfl rfl) rfl (by decide) (by decide) ?_
  refine Go_iinc (pc' := 21) (v := iZ 8) (lv' := [.ref _, .int _, .int _, .int _, .int _, un]) dX12_gathers_18 rfl rfl (by decide) (Nat.le_of_ble_eq_true rfl) rfl rfl ?_
  refine Go_goto (tgt := 3) dX12_gathers_21 (by decide) ?_
  refine Go_iload (pc' := 5) dX12_gathers_3 rfl rfl ?_
  refine Go_bipush (v := iZ 7) (pc' := 7) dX12_gathers_5 rfl (by decide) ?_
  refine Go_icmp_gtY (tgt := 24) (pc' := 10) dX12_gathers_7 (by decide) rfl (by first | exact ⟨i_lo _, i_hi _⟩ | omega) (by first | exact ⟨i_lo _, i_hi _⟩ | omega) (fun c7 => ?_) (fun c7 => by exfalso; omega)
  refine Go_aload_n (pc' := 25) dX12_gathers_24 rfl rfl rfl ?_
  refine Go_getRs (pc' := 28) dX12_gathers_25 rfl kf_RX12_55 (by decide) (by decide) rfl (S.b 99 rfl rfl) (S.o 99 rfl rfl rfl) (S.r 99 16 rfl rfl rfl) ?_
  refine Go_iconst (v := iZ 4) (pc' := 29) dX12_gathers_28 rfl (by decide) ?_
  refine Go_iload_n (pc' := 30) dX12_gathers_29 rfl rfl rfl ?_
  refine Go_iload_n (pc' := 31) dX12_gathers_30 rfl rfl rfl ?_
  refine Go_isubZ (pc' := 32) dX12_gathers_31 rfl ?_
  refine Go_iconst (v := iZ 1) (pc' := 33) dX12_gathers_32 rfl (by decide) ?_
  refine Go_iaddZ (pc' := 34) dX12_gathers_33 rfl ?_
  refine Go_iastoreZ (n := 8) (k := 4) (pc' := 35) dX12_gathers_34 rfl (S.b 115 rfl rfl) (S.k 115 rfl rfl rfl) rfl (by decide) (by decide) ?_
  refine Go_iload_n (pc' := 36) dX12_gathers_35 rfl rfl rfl ?_
  refine Go_istore (pc' := 38) (lv' := [.ref _, .int _, .int _, .int _, .int _, un]) dX12_gathers_36 rfl (Nat.le_of_ble_eq_true rfl) rfl rfl ?_
  have e0 := setR_self h 115
  rw [show ((wI (wI (wI (wI (wI (wI h 115 3 (iZ 0)) 115 4 (iZ 0)) 115 5 (iZ 0)) 115 6 (iZ 0)) 115 7 (iZ 0)) 115 4 (iZ ((b - a) + 1)))) = setR h 115 (upd (upd (upd (upd (upd (upd (vi h 115) 3 (iZ 0)) 4 (iZ 0)) 5 (iZ 0)) 6 (iZ 0)) 7 (iZ 0)) 4 (iZ (b - a + 1))) from by rw [← setR_wI, ← setR_wI, ← setR_wI, ← setR_wI, ← setR_wI, ← setR_wI, setR_self]]
  exact ga_loop S M (by omega) (wh_all w) (b + 1 - a).toNat a 0 0 0 0 _ _ (by omega) (by omega) (by omega) (by omega) (by omega) (by omega) ⟨by simp [upd], by simp [upd], by simp [upd], by simp [upd], by simp [upd]⟩ hk
def bfs (E : Int) (t : Int × Int × Int × Int) : Int := if E = 0 then t.1 else if E = 1 then t.2.2.1 else if E = 2 then t.2.1 else if E = 3 then t.2.2.2 else -1
theorem bf_0 {t : Int × Int × Int × Int} : bfs 0 t = t.1 := rfl
theorem bf_1 {t : Int × Int × Int × Int} : bfs 1 t = t.2.2.1 := rfl
theorem bf_2 {t : Int × Int × Int × Int} : bfs 2 t = t.2.1 := rfl
theorem bf_3 {t : Int × Int × Int × Int} : bfs 3 t = t.2.2.2 := rfl
theorem bf_4 {E : Int} {t : Int × Int × Int × Int} (h : E < 0 ∨ 3 < E) : bfs E t = -1 := by unfold bfs; rw [if_neg (by omega), if_neg (by omega), if_neg (by omega), if_neg (by omega)]
set_option maxRecDepth 20000 in
set_option maxHeartbeats 1000000 in
theorem br_M {G : GC} {d mc ms : Nat} {h : HS} {K : Option Value → HS → Prop} {j o n : Nat} {nc : Nat} {a b E : Int} (I : Inv h) (M : Smp h j o n) (hj : j < nc) (hnc : nc ≤ 6) (ec0 : vi h 99 0 = iZ (nc : Int)) (ha : -2147483648 ≤ a ∧ a < 2147483648) (hb : -2147483648 ≤ b ∧ b < 2147483648) (hE : -2147483648 ≤ E ∧ E < 2147483648) (w : wh h o n a b) (hk : ∀ h2, Inv h2 → K (some (.int (iZ (bfs E (ME h o a b))))) h2) : Go G (d + 3) mc ms M_X12_burst 0 [.ref 99, .int (iZ (j : Int)), .int (iZ a), .int (iZ b), .int (iZ E)] [] h K := by
  have S := I.S
  refine Go_aload_n (pc' := 1) dX12_burst_0 rfl rfl rfl ?_
  refine Go_iload_n (pc' := 2) dX12_burst_1 rfl rfl rfl ?_
  refine Go_iload_n (pc' := 3) dX12_burst_2 rfl rfl rfl ?_
  refine Go_iload_n (pc' := 4) dX12_burst_3 rfl rfl rfl ?_
  refine Go_callV_i (pc' := 7) (As := [.int _, .int _, .int _]) (st := []) dX12_burst_4 rfl ok_X12_isBurst km_RX12_196 (S.o 99 rfl rfl rfl) (S.b 99 rfl rfl) ⟨_, _, rfl⟩ rfl (Nat.le_of_ble_eq_true rfl) rfl rfl rfl (Nat.le_of_ble_eq_true rfl) (Nat.lt_succ_self _) ?_
  refine s_ib S M hj hnc ec0 (by omega) (by omega) ?_
  refine ⟨_, rfl, ?_⟩
  refine Go_if_neb (tgt := 12) (pc' := 10) dX12_burst_7 (by decide) rfl (fun c7 => ?_) (fun c7 => by exact absurd w c7)
  refine Go_aload_n (pc' := 13) dX12_burst_12 rfl rfl rfl ?_
  refine Go_iload_n (pc' := 14) dX12_burst_13 rfl rfl rfl ?_
  refine Go_iload_n (pc' := 15) dX12_burst_14 rfl rfl rfl ?_
  refine Go_iload_n (pc' := 16) dX12_burst_15 rfl rfl rfl ?_
  refine Go_callV_v (pc' := 19) (As := [.int _, .int _, .int _]) (st := []) dX12_burst_16 rfl ok_X12_gathers km_RX12_199 (S.o 99 rfl rfl rfl) (S.b 99 rfl rfl) ⟨_, _, rfl⟩ rfl (Nat.le_of_ble_eq_true rfl) rfl rfl rfl (Nat.le_of_ble_eq_true rfl) (Nat.lt_succ_self _) ?_
  refine s_ga S M w (fun u hU => ?_)
  refine ⟨rfl, ?_⟩
  obtain ⟨U1, U2, U3, U4, U5⟩ := hU
  have k := hk _ (I.scr ((DifS.rf h).setR (i := 115) (f := u) (by omega)))
  refine Go_iload (pc' := 21) dX12_burst_19 rfl rfl ?_
  rcases (show E = 0 ∨ E = 1 ∨ E = 2 ∨ E = 3 ∨ (E < 0 ∨ 3 < E) by omega) with e21 | e21 | e21 | e21 | e21
  · refine Go_tableIn (off := 31) (tgt := 52) dX12_burst_21 (by rw [(iZ_t (X := E) (by omega))]; omega) (by rw [(iZ_t (X := E) (by omega))]; omega) (by rw [(iZ_t (X := E) (by omega)), e21]; rfl) (by decide) ?_
    refine Go_aload_n (pc' := 53) dX12_burst_52 rfl rfl rfl ?_
    refine Go_getRs (pc' := 56) dX12_burst_53 rfl kf_RX12_55 (by decide) (by decide) rfl (S.b 99 rfl rfl) (S.o 99 rfl rfl rfl) (S.r 99 16 rfl rfl rfl) ?_
    refine Go_iconst (v := iZ 3) (pc' := 57) dX12_burst_56 rfl (by decide) ?_
    refine Go_ialoadZ (n := 8) (k := 3) (v := (iZ (ME h o a b).1)) (pc' := 58) dX12_burst_57 rfl (S.b 115 rfl rfl) (S.k 115 rfl rfl rfl) rfl (by decide) (by decide) ((vi_setR h 115 u 3).trans U1) ?_
    refine Go_ireturn (ty := .int) dX12_burst_58 rfl rfl ?_
    subst e21
    exact k
  · refine Go_tableIn (off := 38) (tgt := 59) dX12_burst_21 (by rw [(iZ_t (X := E) (by omega))]; omega) (by rw [(iZ_t (X := E) (by omega))]; omega) (by rw [(iZ_t (X := E) (by omega)), e21]; rfl) (by decide) ?_
    refine Go_aload_n (pc' := 60) dX12_burst_59 rfl rfl rfl ?_
    refine Go_getRs (pc' := 63) dX12_burst_60 rfl kf_RX12_55 (by decide) (by decide) rfl (S.b 99 rfl rfl) (S.o 99 rfl rfl rfl) (S.r 99 16 rfl rfl rfl) ?_
    refine Go_iconst (v := iZ 5) (pc' := 64) dX12_burst_63 rfl (by decide) ?_
    refine Go_ialoadZ (n := 8) (k := 5) (v := (iZ (ME h o a b).2.2.1)) (pc' := 65) dX12_burst_64 rfl (S.b 115 rfl rfl) (S.k 115 rfl rfl rfl) rfl (by decide) (by decide) ((vi_setR h 115 u 5).trans U3) ?_
    refine Go_ireturn (ty := .int) dX12_burst_65 rfl rfl ?_
    subst e21
    exact k
  · refine Go_tableIn (off := 45) (tgt := 66) dX12_burst_21 (by rw [(iZ_t (X := E) (by omega))]; omega) (by rw [(iZ_t (X := E) (by omega))]; omega) (by rw [(iZ_t (X := E) (by omega)), e21]; rfl) (by decide) ?_
    refine Go_aload_n (pc' := 67) dX12_burst_66 rfl rfl rfl ?_
    refine Go_getRs (pc' := 70) dX12_burst_67 rfl kf_RX12_55 (by decide) (by decide) rfl (S.b 99 rfl rfl) (S.o 99 rfl rfl rfl) (S.r 99 16 rfl rfl rfl) ?_
    refine Go_bipush (v := iZ 6) (pc' := 72) dX12_burst_70 rfl (by decide) ?_
    refine Go_ialoadZ (n := 8) (k := 6) (v := (iZ (ME h o a b).2.1)) (pc' := 73) dX12_burst_72 rfl (S.b 115 rfl rfl) (S.k 115 rfl rfl rfl) rfl (by decide) (by decide) ((vi_setR h 115 u 6).trans U4) ?_
    refine Go_ireturn (ty := .int) dX12_burst_73 rfl rfl ?_
    subst e21
    exact k
  · refine Go_tableIn (off := 53) (tgt := 74) dX12_burst_21 (by rw [(iZ_t (X := E) (by omega))]; omega) (by rw [(iZ_t (X := E) (by omega))]; omega) (by rw [(iZ_t (X := E) (by omega)), e21]; rfl) (by decide) ?_
    refine Go_aload_n (pc' := 75) dX12_burst_74 rfl rfl rfl ?_
    refine Go_getRs (pc' := 78) dX12_burst_75 rfl kf_RX12_55 (by decide) (by decide) rfl (S.b 99 rfl rfl) (S.o 99 rfl rfl rfl) (S.r 99 16 rfl rfl rfl) ?_
    refine Go_bipush (v := iZ 7) (pc' := 80) dX12_burst_78 rfl (by decide) ?_
    refine Go_ialoadZ (n := 8) (k := 7) (v := (iZ (ME h o a b).2.2.2)) (pc' := 81) dX12_burst_80 rfl (S.b 115 rfl rfl) (S.k 115 rfl rfl rfl) rfl (by decide) (by decide) ((vi_setR h 115 u 7).trans U5) ?_
    refine Go_ireturn (ty := .int) dX12_burst_81 rfl rfl ?_
    subst e21
    exact k
  · refine Go_tableOut (tgt := 82) dX12_burst_21 (by rw [(iZ_t (X := E) (by omega))]; omega) (by decide) ?_
    refine Go_iconst (v := iZ (-1)) (pc' := 83) dX12_burst_82 rfl (by decide) ?_
    refine Go_ireturn (ty := .int) dX12_burst_83 rfl rfl ?_
    rw [bf_4 e21] at k; exact k
set_option maxRecDepth 20000 in
set_option maxHeartbeats 1000000 in
theorem pair12 {G : GC} (a b c e : Int32) : PairI G M_X11_burst M_X12_burst [.int a, .int b, .int c, .int e] := by
  intro h I
  obtain ⟨Az, hva, rfl⟩ := i_eta a
  obtain ⟨Bz, hvb, rfl⟩ := i_eta b
  obtain ⟨Cz, hvc, rfl⟩ := i_eta c
  obtain ⟨Ez, hve, rfl⟩ := i_eta e
  obtain ⟨nc, hnc, ec2⟩ := of_rgZ (b := 6) I.C.1.2
  have ec0 : vi h 99 0 = iZ (nc : Int) := I.C.1.1.trans ec2
  have S := I.S
  by_cases hcc : 0 ≤ Az ∧ Az < nc
  · obtain ⟨j, rfl⟩ : ∃ j : Nat, Az = (j : Int) := ⟨Az.toNat, by omega⟩
    obtain ⟨o, ho, CS, CV⟩ := cel_ex I hnc ec2 (c := j) (by omega)
    obtain ⟨n, M⟩ := smp_of (by omega) CS CV
    have hn := M.n
    have hq0 := CS.1
    by_cases w : wh h o n Bz Cz
    · refine ⟨fun r h1 => r = iZ (bfs Ez (ME h o Bz Cz)) ∧ h1 = (h70 h Bz Cz (ME h o Bz Cz)), fun K k => ?_, ?_⟩
      · have k := k _ _ ⟨rfl, rfl⟩ (d70.shp S)
        refine Go.more (d := 60) (mc := 0) (ms := 0) ?_ (by omega) (by omega) (by omega)
        show Go G 60 0 0 M_X11_burst 0 [.ref 64, .int (iZ (j : Int)), .int (iZ Bz), .int (iZ Cz), .int (iZ Ez), un] [] h K
        refine Go_aload_n (pc' := 1) dX11_burst_0 rfl rfl rfl ?_
        refine Go_iload_n (pc' := 2) dX11_burst_1 rfl rfl rfl ?_
        refine Go_callV_r (pc' := 5) (As := [.int _]) (st := []) dX11_burst_2 rfl ok_X11_cellarOf km_RX11_90 (I.S.o 64 rfl rfl rfl) (I.S.b 64 rfl rfl) ⟨_, _, rfl⟩ rfl (Nat.le_of_ble_eq_true rfl) rfl rfl rfl (Nat.le_of_ble_eq_true rfl) (Nat.lt_succ_self _) ?_
        refine Go_iload_n (pc' := 1) dX11_cellarOf_0 rfl rfl rfl ?_
        refine Go_iconst (v := iZ 0) (pc' := 2) dX11_cellarOf_1 rfl (by decide) ?_
        refine Go_aload_n (pc' := 3) dX11_cellarOf_2 rfl rfl rfl ?_
        refine Go_getIv (v := (iZ (nc : Int))) (pc' := 6) dX11_cellarOf_3 rfl kf_RX11_84 (by decide) (by decide) rfl (I.S.b 64 rfl rfl) (I.S.o 64 rfl rfl rfl) (ec2) ?_
        refine Go_iconst (v := iZ 1) (pc' := 7) dX11_cellarOf_6 rfl (by decide) ?_
        refine Go_isubZ (pc' := 8) dX11_cellarOf_7 rfl ?_
        refine Go_callS_i (pc' := 11) (As := [.int _, .int _, .int _]) (st := []) dX11_cellarOf_8 rfl ok_X11_within km_RX11_94 rfl (Nat.le_of_ble_eq_true rfl) rfl rfl rfl (Nat.le_of_ble_eq_true rfl) (Nat.lt_succ_self _) ?_
        refine s_withinY (by first | exact ⟨i_lo _, i_hi _⟩ | omega) (by first | exact ⟨i_lo _, i_hi _⟩ | omega) (by first | exact ⟨i_lo _, i_hi _⟩ | omega) ?_
        refine ⟨_, rfl, ?_⟩
        refine Go_if_eqb (tgt := 32) (pc' := 14) dX11_cellarOf_11 (by decide) rfl (fun q11 => by exfalso; omega) (fun q11 => ?_)
        refine Go_iload_n (pc' := 15) dX11_cellarOf_14 rfl rfl rfl ?_
        refine Go_aload_n (pc' := 16) dX11_cellarOf_15 rfl rfl rfl ?_
        refine Go_getRs (pc' := 19) dX11_cellarOf_16 rfl kf_RX11_18 (by decide) (by decide) rfl (I.S.b 64 rfl rfl) (I.S.o 64 rfl rfl rfl) (I.S.r 64 1 rfl rfl rfl) ?_
        refine Go_alenZ (n := 6) (pc' := 20) dX11_cellarOf_19 rfl (I.S.b 67 rfl rfl) (I.S.k 67 rfl rfl rfl) (Or.inr (Or.inr ⟨_, rfl⟩)) ?_
        refine Go_icmp_geY (tgt := 32) (pc' := 23) dX11_cellarOf_20 (by decide) rfl (by first | exact ⟨i_lo _, i_hi _⟩ | omega) (by first | exact ⟨i_lo _, i_hi _⟩ | omega) (fun q20 => by exfalso; omega) (fun q20 => ?_)
        refine Go_aload_n (pc' := 24) dX11_cellarOf_23 rfl rfl rfl ?_
        refine Go_getRs (pc' := 27) dX11_cellarOf_24 rfl kf_RX11_18 (by decide) (by decide) rfl (I.S.b 64 rfl rfl) (I.S.o 64 rfl rfl rfl) (I.S.r 64 1 rfl rfl rfl) ?_
        refine Go_iload_n (pc' := 28) dX11_cellarOf_27 rfl rfl rfl ?_
        refine Go_aaloadZ (n := 6) (k := j) (pc' := 29) dX11_cellarOf_28 rfl (I.S.b 67 rfl rfl) (I.S.k 67 rfl rfl rfl) rfl rfl (by omega) (by decide) ho ?_
        refine Go_goto (tgt := 33) dX11_cellarOf_29 (by decide) ?_
        refine Go_areturn (r := some _) dX11_cellarOf_33 rfl ?_
        refine ⟨some _, rfl, ?_⟩
        refine Go_astore (pc' := 7) (lv' := [.ref _, .int _, .int _, .int _, .int _, .ref _]) dX11_burst_5 rfl (Nat.le_of_ble_eq_true rfl) rfl rfl ?_
        refine Go_aload (pc' := 9) dX11_burst_7 rfl rfl ?_
        refine Go_ifnull (pc' := 12) dX11_burst_9 rfl ?_
        refine Go_aload_n (pc' := 13) dX11_burst_12 rfl rfl rfl ?_
        refine Go_getRs (pc' := 16) dX11_burst_13 rfl kf_RX11_32 (by decide) (by decide) rfl (I.S.b 64 rfl rfl) (I.S.o 64 rfl rfl rfl) (I.S.r 64 4 rfl rfl rfl) ?_
        refine Go_aload (pc' := 18) dX11_burst_16 rfl rfl ?_
        refine Go_iload_n (pc' := 19) dX11_burst_18 rfl rfl rfl ?_
        refine Go_iload_n (pc' := 20) dX11_burst_19 rfl rfl rfl ?_
        refine Go_callV_i (pc' := 23) (As := [.ref _, .int _, .int _]) (st := []) dX11_burst_20 rfl ok_X0_measure km_RX11_186 (I.S.o 69 rfl rfl rfl) (I.S.b 69 rfl rfl) ⟨_, _, rfl⟩ rfl (Nat.le_of_ble_eq_true rfl) rfl rfl rfl (Nat.le_of_ble_eq_true rfl) (Nat.lt_succ_self _) ?_
        refine s_mea S M (by omega) (by omega) w ?_
        refine ⟨_, rfl, ?_⟩
        refine Go_if_neY (tgt := 28) (pc' := 26) dX11_burst_23 (by decide) rfl (by first | exact ⟨i_lo _, i_hi _⟩ | omega) (fun c23 => ?_) (fun c23 => by exfalso; omega)
        refine Go_iload (pc' := 30) dX11_burst_28 rfl rfl ?_
        rcases (show Ez = 0 ∨ Ez = 1 ∨ Ez = 2 ∨ Ez = 3 ∨ (Ez < 0 ∨ 3 < Ez) by omega) with e30 | e30 | e30 | e30 | e30
        · refine Go_tableIn (off := 30) (tgt := 60) dX11_burst_30 (by rw [(iZ_t (X := Ez) (by omega))]; omega) (by rw [(iZ_t (X := Ez) (by omega))]; omega) (by rw [(iZ_t (X := Ez) (by omega)), e30]; rfl) (by decide) ?_
          refine Go_aload_n (pc' := 61) dX11_burst_60 rfl rfl rfl ?_
          refine Go_getRs (pc' := 64) dX11_burst_61 rfl kf_RX11_32 (by decide) (by decide) rfl (S.b 64 rfl rfl) (S.o 64 rfl rfl rfl) (S.r 64 4 rfl rfl rfl) ?_
          refine Go_iconst (v := iZ 2) (pc' := 65) dX11_burst_64 rfl (by decide) ?_
          refine Go_callV_i (pc' := 68) (As := [.int _]) (st := []) dX11_burst_65 rfl ok_X0_fact km_RX11_190 (S.o 69 rfl rfl rfl) (S.b 69 rfl rfl) ⟨_, _, rfl⟩ rfl (Nat.le_of_ble_eq_true rfl) rfl rfl rfl (Nat.le_of_ble_eq_true rfl) (Nat.lt_succ_self _) ?_
          refine Go_iload_n (pc' := 1) dX0_fact_0 rfl rfl rfl ?_
          refine Go_if_ltY (tgt := 22) (pc' := 4) dX0_fact_1 (by decide) rfl (by first | exact ⟨i_lo _, i_hi _⟩ | omega) (fun f1 => by exfalso; omega) (fun f1 => ?_)
          refine Go_iload_n (pc' := 5) dX0_fact_4 rfl rfl rfl ?_
          refine Go_aload_n (pc' := 6) dX0_fact_5 rfl rfl rfl ?_
          refine Go_getRs (pc' := 9) dX0_fact_6 rfl kf_RX0_9 (by decide) (by decide) rfl (S.b 69 rfl rfl) (S.o 69 rfl rfl rfl) (S.r 69 0 rfl rfl rfl) ?_
          refine Go_alenZ (n := 7) (pc' := 10) dX0_fact_9 rfl (S.b 70 rfl rfl) (S.k 70 rfl rfl rfl) (Or.inl rfl) ?_
          refine Go_icmp_geY (tgt := 22) (pc' := 13) dX0_fact_10 (by decide) rfl (by first | exact ⟨i_lo _, i_hi _⟩ | omega) (by first | exact ⟨i_lo _, i_hi _⟩ | omega) (fun f10 => by exfalso; omega) (fun f10 => ?_)
          refine Go_aload_n (pc' := 14) dX0_fact_13 rfl rfl rfl ?_
          refine Go_getRs (pc' := 17) dX0_fact_14 rfl kf_RX0_9 (by decide) (by decide) rfl (S.b 69 rfl rfl) (S.o 69 rfl rfl rfl) (S.r 69 0 rfl rfl rfl) ?_
          refine Go_iload_n (pc' := 18) dX0_fact_17 rfl rfl rfl ?_
          refine Go_ialoadZ (n := 7) (k := 2) (v := (iZ (ME h o Bz Cz).1)) (pc' := 19) dX0_fact_18 rfl (S.b 70 rfl rfl) (S.k 70 rfl rfl rfl) rfl (by decide) (by decide) (((vi_skip (by omega)).trans ((vi_skip (by omega)).trans ((vi_skip (by omega)).trans ((vi_skip (by omega)).trans (vi_same)))))) ?_
          refine Go_goto (tgt := 23) dX0_fact_19 (by decide) ?_
          refine Go_ireturn (ty := .int) dX0_fact_23 rfl rfl ?_
          refine ⟨_, rfl, ?_⟩
          refine Go_ireturn (ty := .int) dX11_burst_68 rfl rfl ?_
          subst e30
          exact k
        · refine Go_tableIn (off := 39) (tgt := 69) dX11_burst_30 (by rw [(iZ_t (X := Ez) (by omega))]; omega) (by rw [(iZ_t (X := Ez) (by omega))]; omega) (by rw [(iZ_t (X := Ez) (by omega)), e30]; rfl) (by decide) ?_
          refine Go_aload_n (pc' := 70) dX11_burst_69 rfl rfl rfl ?_
          refine Go_getRs (pc' := 73) dX11_burst_70 rfl kf_RX11_32 (by decide) (by decide) rfl (S.b 64 rfl rfl) (S.o 64 rfl rfl rfl) (S.r 64 4 rfl rfl rfl) ?_
          refine Go_iconst (v := iZ 4) (pc' := 74) dX11_burst_73 rfl (by decide) ?_
          refine Go_callV_i (pc' := 77) (As := [.int _]) (st := []) dX11_burst_74 rfl ok_X0_fact km_RX11_190 (S.o 69 rfl rfl rfl) (S.b 69 rfl rfl) ⟨_, _, rfl⟩ rfl (Nat.le_of_ble_eq_true rfl) rfl rfl rfl (Nat.le_of_ble_eq_true rfl) (Nat.lt_succ_self _) ?_
          refine Go_iload_n (pc' := 1) dX0_fact_0 rfl rfl rfl ?_
          refine Go_if_ltY (tgt := 22) (pc' := 4) dX0_fact_1 (by decide) rfl (by first | exact ⟨i_lo _, i_hi _⟩ | omega) (fun f1 => by exfalso; omega) (fun f1 => ?_)
          refine Go_iload_n (pc' := 5) dX0_fact_4 rfl rfl rfl ?_
          refine Go_aload_n (pc' := 6) dX0_fact_5 rfl rfl rfl ?_
          refine Go_getRs (pc' := 9) dX0_fact_6 rfl kf_RX0_9 (by decide) (by decide) rfl (S.b 69 rfl rfl) (S.o 69 rfl rfl rfl) (S.r 69 0 rfl rfl rfl) ?_
          refine Go_alenZ (n := 7) (pc' := 10) dX0_fact_9 rfl (S.b 70 rfl rfl) (S.k 70 rfl rfl rfl) (Or.inl rfl) ?_
          refine Go_icmp_geY (tgt := 22) (pc' := 13) dX0_fact_10 (by decide) rfl (by first | exact ⟨i_lo _, i_hi _⟩ | omega) (by first | exact ⟨i_lo _, i_hi _⟩ | omega) (fun f10 => by exfalso; omega) (fun f10 => ?_)
          refine Go_aload_n (pc' := 14) dX0_fact_13 rfl rfl rfl ?_
          refine Go_getRs (pc' := 17) dX0_fact_14 rfl kf_RX0_9 (by decide) (by decide) rfl (S.b 69 rfl rfl) (S.o 69 rfl rfl rfl) (S.r 69 0 rfl rfl rfl) ?_
          refine Go_iload_n (pc' := 18) dX0_fact_17 rfl rfl rfl ?_
          refine Go_ialoadZ (n := 7) (k := 4) (v := (iZ (ME h o Bz Cz).2.2.1)) (pc' := 19) dX0_fact_18 rfl (S.b 70 rfl rfl) (S.k 70 rfl rfl rfl) rfl (by decide) (by decide) (((vi_skip (by omega)).trans ((vi_skip (by omega)).trans (vi_same)))) ?_
          refine Go_goto (tgt := 23) dX0_fact_19 (by decide) ?_
          refine Go_ireturn (ty := .int) dX0_fact_23 rfl rfl ?_
          refine ⟨_, rfl, ?_⟩
          refine Go_ireturn (ty := .int) dX11_burst_77 rfl rfl ?_
          subst e30
          exact k
        · refine Go_tableIn (off := 48) (tgt := 78) dX11_burst_30 (by rw [(iZ_t (X := Ez) (by omega))]; omega) (by rw [(iZ_t (X := Ez) (by omega))]; omega) (by rw [(iZ_t (X := Ez) (by omega)), e30]; rfl) (by decide) ?_
          refine Go_aload_n (pc' := 79) dX11_burst_78 rfl rfl rfl ?_
          refine Go_getRs (pc' := 82) dX11_burst_79 rfl kf_RX11_32 (by decide) (by decide) rfl (S.b 64 rfl rfl) (S.o 64 rfl rfl rfl) (S.r 64 4 rfl rfl rfl) ?_
          refine Go_iconst (v := iZ 5) (pc' := 83) dX11_burst_82 rfl (by decide) ?_
          refine Go_callV_i (pc' := 86) (As := [.int _]) (st := []) dX11_burst_83 rfl ok_X0_fact km_RX11_190 (S.o 69 rfl rfl rfl) (S.b 69 rfl rfl) ⟨_, _, rfl⟩ rfl (Nat.le_of_ble_eq_true rfl) rfl rfl rfl (Nat.le_of_ble_eq_true rfl) (Nat.lt_succ_self _) ?_
          refine Go_iload_n (pc' := 1) dX0_fact_0 rfl rfl rfl ?_
          refine Go_if_ltY (tgt := 22) (pc' := 4) dX0_fact_1 (by decide) rfl (by first | exact ⟨i_lo _, i_hi _⟩ | omega) (fun f1 => by exfalso; omega) (fun f1 => ?_)
          refine Go_iload_n (pc' := 5) dX0_fact_4 rfl rfl rfl ?_
          refine Go_aload_n (pc' := 6) dX0_fact_5 rfl rfl rfl ?_
          refine Go_getRs (pc' := 9) dX0_fact_6 rfl kf_RX0_9 (by decide) (by decide) rfl (S.b 69 rfl rfl) (S.o 69 rfl rfl rfl) (S.r 69 0 rfl rfl rfl) ?_
          refine Go_alenZ (n := 7) (pc' := 10) dX0_fact_9 rfl (S.b 70 rfl rfl) (S.k 70 rfl rfl rfl) (Or.inl rfl) ?_
          refine Go_icmp_geY (tgt := 22) (pc' := 13) dX0_fact_10 (by decide) rfl (by first | exact ⟨i_lo _, i_hi _⟩ | omega) (by first | exact ⟨i_lo _, i_hi _⟩ | omega) (fun f10 => by exfalso; omega) (fun f10 => ?_)
          refine Go_aload_n (pc' := 14) dX0_fact_13 rfl rfl rfl ?_
          refine Go_getRs (pc' := 17) dX0_fact_14 rfl kf_RX0_9 (by decide) (by decide) rfl (S.b 69 rfl rfl) (S.o 69 rfl rfl rfl) (S.r 69 0 rfl rfl rfl) ?_
          refine Go_iload_n (pc' := 18) dX0_fact_17 rfl rfl rfl ?_
          refine Go_ialoadZ (n := 7) (k := 5) (v := (iZ (ME h o Bz Cz).2.1)) (pc' := 19) dX0_fact_18 rfl (S.b 70 rfl rfl) (S.k 70 rfl rfl rfl) rfl (by decide) (by decide) (((vi_skip (by omega)).trans (vi_same))) ?_
          refine Go_goto (tgt := 23) dX0_fact_19 (by decide) ?_
          refine Go_ireturn (ty := .int) dX0_fact_23 rfl rfl ?_
          refine ⟨_, rfl, ?_⟩
          refine Go_ireturn (ty := .int) dX11_burst_86 rfl rfl ?_
          subst e30
          exact k
        · refine Go_tableIn (off := 57) (tgt := 87) dX11_burst_30 (by rw [(iZ_t (X := Ez) (by omega))]; omega) (by rw [(iZ_t (X := Ez) (by omega))]; omega) (by rw [(iZ_t (X := Ez) (by omega)), e30]; rfl) (by decide) ?_
          refine Go_aload_n (pc' := 88) dX11_burst_87 rfl rfl rfl ?_
          refine Go_getRs (pc' := 91) dX11_burst_88 rfl kf_RX11_32 (by decide) (by decide) rfl (S.b 64 rfl rfl) (S.o 64 rfl rfl rfl) (S.r 64 4 rfl rfl rfl) ?_
          refine Go_bipush (v := iZ 6) (pc' := 93) dX11_burst_91 rfl (by decide) ?_
          refine Go_callV_i (pc' := 96) (As := [.int _]) (st := []) dX11_burst_93 rfl ok_X0_fact km_RX11_190 (S.o 69 rfl rfl rfl) (S.b 69 rfl rfl) ⟨_, _, rfl⟩ rfl (Nat.le_of_ble_eq_true rfl) rfl rfl rfl (Nat.le_of_ble_eq_true rfl) (Nat.lt_succ_self _) ?_
          refine Go_iload_n (pc' := 1) dX0_fact_0 rfl rfl rfl ?_
          refine Go_if_ltY (tgt := 22) (pc' := 4) dX0_fact_1 (by decide) rfl (by first | exact ⟨i_lo _, i_hi _⟩ | omega) (fun f1 => by exfalso; omega) (fun f1 => ?_)
          refine Go_iload_n (pc' := 5) dX0_fact_4 rfl rfl rfl ?_
          refine Go_aload_n (pc' := 6) dX0_fact_5 rfl rfl rfl ?_
          refine Go_getRs (pc' := 9) dX0_fact_6 rfl kf_RX0_9 (by decide) (by decide) rfl (S.b 69 rfl rfl) (S.o 69 rfl rfl rfl) (S.r 69 0 rfl rfl rfl) ?_
          refine Go_alenZ (n := 7) (pc' := 10) dX0_fact_9 rfl (S.b 70 rfl rfl) (S.k 70 rfl rfl rfl) (Or.inl rfl) ?_
          refine Go_icmp_geY (tgt := 22) (pc' := 13) dX0_fact_10 (by decide) rfl (by first | exact ⟨i_lo _, i_hi _⟩ | omega) (by first | exact ⟨i_lo _, i_hi _⟩ | omega) (fun f10 => by exfalso; omega) (fun f10 => ?_)
          refine Go_aload_n (pc' := 14) dX0_fact_13 rfl rfl rfl ?_
          refine Go_getRs (pc' := 17) dX0_fact_14 rfl kf_RX0_9 (by decide) (by decide) rfl (S.b 69 rfl rfl) (S.o 69 rfl rfl rfl) (S.r 69 0 rfl rfl rfl) ?_
          refine Go_iload_n (pc' := 18) dX0_fact_17 rfl rfl rfl ?_
          refine Go_ialoadZ (n := 7) (k := 6) (v := (iZ (ME h o Bz Cz).2.2.2)) (pc' := 19) dX0_fact_18 rfl (S.b 70 rfl rfl) (S.k 70 rfl rfl rfl) rfl (by decide) (by decide) (vi_same) ?_
          refine Go_goto (tgt := 23) dX0_fact_19 (by decide) ?_
          refine Go_ireturn (ty := .int) dX0_fact_23 rfl rfl ?_
          refine ⟨_, rfl, ?_⟩
          refine Go_ireturn (ty := .int) dX11_burst_96 rfl rfl ?_
          subst e30
          exact k
        · refine Go_tableOut (tgt := 97) dX11_burst_30 (by rw [(iZ_t (X := Ez) (by omega))]; omega) (by decide) ?_
          refine Go_iconst (v := iZ (-1)) (pc' := 98) dX11_burst_97 rfl (by decide) ?_
          refine Go_ireturn (ty := .int) dX11_burst_98 rfl rfl ?_
          rw [bf_4 e30] at k; exact k
      · rintro r h1 ⟨rfl, rfl⟩ K k
        have D : DifS h (h70 h Bz Cz (ME h o Bz Cz)) := d70
        have w1 : wh (h70 h Bz Cz (ME h o Bz Cz)) o n Bz Cz := by unfold wh nmB; rw [sap_dif hq0.1 D]; exact w
        show Go G 60 0 0 M_X12_burst 0 [.ref 99, .int (iZ (j : Int)), .int (iZ Bz), .int (iZ Cz), .int (iZ Ez)] [] (h70 h Bz Cz (ME h o Bz Cz)) K
        refine br_M (nc := nc) (I.scr D) (M.dif D) (by omega) hnc ((D.2.2.2 _ _ (by omega)).trans ec0) (by omega) (by omega) (by omega) w1 (fun h2 I2 => ?_)
        rw [show ME (h70 h Bz Cz (ME h o Bz Cz)) o Bz Cz = ME h o Bz Cz by unfold ME; rw [sap_dif hq0.1 D, lmt_dif hq0.1 D]]
        exact k h2 I2
    · refine PairI.ro' (fun _ => iZ (-1)) h I (fun K k => ?_) (fun K k => ?_)
      · show Go G 60 0 0 M_X11_burst 0 [.ref 64, .int (iZ (j : Int)), .int (iZ Bz), .int (iZ Cz), .int (iZ Ez), un] [] h K
        refine Go_aload_n (pc' := 1) dX11_burst_0 rfl rfl rfl ?_
        refine Go_iload_n (pc' := 2) dX11_burst_1 rfl rfl rfl ?_
        refine Go_callV_r (pc' := 5) (As := [.int _]) (st := []) dX11_burst_2 rfl ok_X11_cellarOf km_RX11_90 (I.S.o 64 rfl rfl rfl) (I.S.b 64 rfl rfl) ⟨_, _, rfl⟩ rfl (Nat.le_of_ble_eq_true rfl) rfl rfl rfl (Nat.le_of_ble_eq_true rfl) (Nat.lt_succ_self _) ?_
        refine Go_iload_n (pc' := 1) dX11_cellarOf_0 rfl rfl rfl ?_
        refine Go_iconst (v := iZ 0) (pc' := 2) dX11_cellarOf_1 rfl (by decide) ?_
        refine Go_aload_n (pc' := 3) dX11_cellarOf_2 rfl rfl rfl ?_
        refine Go_getIv (v := (iZ (nc : Int))) (pc' := 6) dX11_cellarOf_3 rfl kf_RX11_84 (by decide) (by decide) rfl (I.S.b 64 rfl rfl) (I.S.o 64 rfl rfl rfl) (ec2) ?_
        refine Go_iconst (v := iZ 1) (pc' := 7) dX11_cellarOf_6 rfl (by decide) ?_
        refine Go_isubZ (pc' := 8) dX11_cellarOf_7 rfl ?_
        refine Go_callS_i (pc' := 11) (As := [.int _, .int _, .int _]) (st := []) dX11_cellarOf_8 rfl ok_X11_within km_RX11_94 rfl (Nat.le_of_ble_eq_true rfl) rfl rfl rfl (Nat.le_of_ble_eq_true rfl) (Nat.lt_succ_self _) ?_
        refine s_withinY (by first | exact ⟨i_lo _, i_hi _⟩ | omega) (by first | exact ⟨i_lo _, i_hi _⟩ | omega) (by first | exact ⟨i_lo _, i_hi _⟩ | omega) ?_
        refine ⟨_, rfl, ?_⟩
        refine Go_if_eqb (tgt := 32) (pc' := 14) dX11_cellarOf_11 (by decide) rfl (fun q11 => by exfalso; omega) (fun q11 => ?_)
        refine Go_iload_n (pc' := 15) dX11_cellarOf_14 rfl rfl rfl ?_
        refine Go_aload_n (pc' := 16) dX11_cellarOf_15 rfl rfl rfl ?_
        refine Go_getRs (pc' := 19) dX11_cellarOf_16 rfl kf_RX11_18 (by decide) (by decide) rfl (I.S.b 64 rfl rfl) (I.S.o 64 rfl rfl rfl) (I.S.r 64 1 rfl rfl rfl) ?_
        refine Go_alenZ (n := 6) (pc' := 20) dX11_cellarOf_19 rfl (I.S.b 67 rfl rfl) (I.S.k 67 rfl rfl rfl) (Or.inr (Or.inr ⟨_, rfl⟩)) ?_
        refine Go_icmp_geY (tgt := 32) (pc' := 23) dX11_cellarOf_20 (by decide) rfl (by first | exact ⟨i_lo _, i_hi _⟩ | omega) (by first | exact ⟨i_lo _, i_hi _⟩ | omega) (fun q20 => by exfalso; omega) (fun q20 => ?_)
        refine Go_aload_n (pc' := 24) dX11_cellarOf_23 rfl rfl rfl ?_
        refine Go_getRs (pc' := 27) dX11_cellarOf_24 rfl kf_RX11_18 (by decide) (by decide) rfl (I.S.b 64 rfl rfl) (I.S.o 64 rfl rfl rfl) (I.S.r 64 1 rfl rfl rfl) ?_
        refine Go_iload_n (pc' := 28) dX11_cellarOf_27 rfl rfl rfl ?_
        refine Go_aaloadZ (n := 6) (k := j) (pc' := 29) dX11_cellarOf_28 rfl (I.S.b 67 rfl rfl) (I.S.k 67 rfl rfl rfl) rfl rfl (by omega) (by decide) ho ?_
        refine Go_goto (tgt := 33) dX11_cellarOf_29 (by decide) ?_
        refine Go_areturn (r := some _) dX11_cellarOf_33 rfl ?_
        refine ⟨some _, rfl, ?_⟩
        refine Go_astore (pc' := 7) (lv' := [.ref _, .int _, .int _, .int _, .int _, .ref _]) dX11_burst_5 rfl (Nat.le_of_ble_eq_true rfl) rfl rfl ?_
        refine Go_aload (pc' := 9) dX11_burst_7 rfl rfl ?_
        refine Go_ifnull (pc' := 12) dX11_burst_9 rfl ?_
        refine Go_aload_n (pc' := 13) dX11_burst_12 rfl rfl rfl ?_
        refine Go_getRs (pc' := 16) dX11_burst_13 rfl kf_RX11_32 (by decide) (by decide) rfl (I.S.b 64 rfl rfl) (I.S.o 64 rfl rfl rfl) (I.S.r 64 4 rfl rfl rfl) ?_
        refine Go_aload (pc' := 18) dX11_burst_16 rfl rfl ?_
        refine Go_iload_n (pc' := 19) dX11_burst_18 rfl rfl rfl ?_
        refine Go_iload_n (pc' := 20) dX11_burst_19 rfl rfl rfl ?_
        refine Go_callV_i (pc' := 23) (As := [.ref _, .int _, .int _]) (st := []) dX11_burst_20 rfl ok_X0_measure km_RX11_186 (I.S.o 69 rfl rfl rfl) (I.S.b 69 rfl rfl) ⟨_, _, rfl⟩ rfl (Nat.le_of_ble_eq_true rfl) rfl rfl rfl (Nat.le_of_ble_eq_true rfl) (Nat.lt_succ_self _) ?_
        refine s_meaN S M (by omega) (by omega) w ?_
        refine ⟨_, rfl, ?_⟩
        refine Go_if_neY (tgt := 28) (pc' := 26) dX11_burst_23 (by decide) rfl (by first | exact ⟨i_lo _, i_hi _⟩ | omega) (fun c23 => by exfalso; omega) (fun c23 => ?_)
        refine Go_iconst (v := iZ (-1)) (pc' := 27) dX11_burst_26 rfl (by decide) ?_
        refine Go_ireturn (ty := .int) dX11_burst_27 rfl rfl ?_
        exact k
      · show Go G 60 0 0 M_X12_burst 0 [.ref 99, .int (iZ (j : Int)), .int (iZ Bz), .int (iZ Cz), .int (iZ Ez)] [] h K
        refine Go_aload_n (pc' := 1) dX12_burst_0 rfl rfl rfl ?_
        refine Go_iload_n (pc' := 2) dX12_burst_1 rfl rfl rfl ?_
        refine Go_iload_n (pc' := 3) dX12_burst_2 rfl rfl rfl ?_
        refine Go_iload_n (pc' := 4) dX12_burst_3 rfl rfl rfl ?_
        refine Go_callV_i (pc' := 7) (As := [.int _, .int _, .int _]) (st := []) dX12_burst_4 rfl ok_X12_isBurst km_RX12_196 (I.S.o 99 rfl rfl rfl) (I.S.b 99 rfl rfl) ⟨_, _, rfl⟩ rfl (Nat.le_of_ble_eq_true rfl) rfl rfl rfl (Nat.le_of_ble_eq_true rfl) (Nat.lt_succ_self _) ?_
        refine s_ib (nc := nc) S M (by omega) hnc ec0 (by omega) (by omega) ?_
        refine ⟨_, rfl, ?_⟩
        refine Go_if_neb (tgt := 12) (pc' := 10) dX12_burst_7 (by decide) rfl (fun c7 => by exact absurd c7 w) (fun c7 => ?_)
        refine Go_iconst (v := iZ (-1)) (pc' := 11) dX12_burst_10 rfl (by decide) ?_
        refine Go_ireturn (ty := .int) dX12_burst_11 rfl rfl ?_
        exact k
  · refine PairI.ro' (fun _ => iZ (-1)) h I (fun K k => ?_) (fun K k => ?_)
    · show Go G 60 0 0 M_X11_burst 0 [.ref 64, .int (iZ Az), .int (iZ Bz), .int (iZ Cz), .int (iZ Ez), un] [] h K
      refine Go_aload_n (pc' := 1) dX11_burst_0 rfl rfl rfl ?_
      refine Go_iload_n (pc' := 2) dX11_burst_1 rfl rfl rfl ?_
      refine Go_callV_r (pc' := 5) (As := [.int _]) (st := []) dX11_burst_2 rfl ok_X11_cellarOf km_RX11_90 (I.S.o 64 rfl rfl rfl) (I.S.b 64 rfl rfl) ⟨_, _, rfl⟩ rfl (Nat.le_of_ble_eq_true rfl) rfl rfl rfl (Nat.le_of_ble_eq_true rfl) (Nat.lt_succ_self _) ?_
      refine Go_iload_n (pc' := 1) dX11_cellarOf_0 rfl rfl rfl ?_
      refine Go_iconst (v := iZ 0) (pc' := 2) dX11_cellarOf_1 rfl (by decide) ?_
      refine Go_aload_n (pc' := 3) dX11_cellarOf_2 rfl rfl rfl ?_
      refine Go_getIv (v := (iZ (nc : Int))) (pc' := 6) dX11_cellarOf_3 rfl kf_RX11_84 (by decide) (by decide) rfl (I.S.b 64 rfl rfl) (I.S.o 64 rfl rfl rfl) (ec2) ?_
      refine Go_iconst (v := iZ 1) (pc' := 7) dX11_cellarOf_6 rfl (by decide) ?_
      refine Go_isubZ (pc' := 8) dX11_cellarOf_7 rfl ?_
      refine Go_callS_i (pc' := 11) (As := [.int _, .int _, .int _]) (st := []) dX11_cellarOf_8 rfl ok_X11_within km_RX11_94 rfl (Nat.le_of_ble_eq_true rfl) rfl rfl rfl (Nat.le_of_ble_eq_true rfl) (Nat.lt_succ_self _) ?_
      refine s_withinY (by first | exact ⟨i_lo _, i_hi _⟩ | omega) (by first | exact ⟨i_lo _, i_hi _⟩ | omega) (by first | exact ⟨i_lo _, i_hi _⟩ | omega) ?_
      refine ⟨_, rfl, ?_⟩
      refine Go_if_eqb (tgt := 32) (pc' := 14) dX11_cellarOf_11 (by decide) rfl (fun q11 => ?_) (fun q11 => by exfalso; omega)
      refine Go_null (pc' := 33) dX11_cellarOf_32 rfl ?_
      refine Go_areturn (r := none) dX11_cellarOf_33 rfl ?_
      refine ⟨none, rfl, ?_⟩
      refine Go_astoreN (pc' := 7) (lv' := [.ref _, .int _, .int _, .int _, .int _, .null]) dX11_burst_5 rfl (Nat.le_of_ble_eq_true rfl) rfl rfl ?_
      refine Go_aloadN (pc' := 9) dX11_burst_7 rfl rfl ?_
      refine Go_ifnullN (tgt := 26) dX11_burst_9 (by decide) ?_
      refine Go_iconst (v := iZ (-1)) (pc' := 27) dX11_burst_26 rfl (by decide) ?_
      refine Go_ireturn (ty := .int) dX11_burst_27 rfl rfl ?_
      exact k
    · show Go G 60 0 0 M_X12_burst 0 [.ref 99, .int (iZ Az), .int (iZ Bz), .int (iZ Cz), .int (iZ Ez)] [] h K
      refine Go_aload_n (pc' := 1) dX12_burst_0 rfl rfl rfl ?_
      refine Go_iload_n (pc' := 2) dX12_burst_1 rfl rfl rfl ?_
      refine Go_iload_n (pc' := 3) dX12_burst_2 rfl rfl rfl ?_
      refine Go_iload_n (pc' := 4) dX12_burst_3 rfl rfl rfl ?_
      refine Go_callV_i (pc' := 7) (As := [.int _, .int _, .int _]) (st := []) dX12_burst_4 rfl ok_X12_isBurst km_RX12_196 (I.S.o 99 rfl rfl rfl) (I.S.b 99 rfl rfl) ⟨_, _, rfl⟩ rfl (Nat.le_of_ble_eq_true rfl) rfl rfl rfl (Nat.le_of_ble_eq_true rfl) (Nat.lt_succ_self _) ?_
      refine s_ibN (nc := nc) S hcc hnc ec0 (by omega) ?_
      refine ⟨_, rfl, ?_⟩
      refine Go_if_neY (tgt := 12) (pc' := 10) dX12_burst_7 (by decide) rfl (by first | exact ⟨i_lo _, i_hi _⟩ | omega) (fun c7 => by exfalso; omega) (fun c7 => ?_)
      refine Go_iconst (v := iZ (-1)) (pc' := 11) dX12_burst_10 rfl (by decide) ?_
      refine Go_ireturn (ty := .int) dX12_burst_11 rfl rfl ?_
      exact k
