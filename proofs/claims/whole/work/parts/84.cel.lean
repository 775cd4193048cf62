/-! changes of one cellar -/
def SameP (P : Nat → Nat → Prop) (h h' : HS) : Prop := ∀ i k, P i k → vi h' i k = vi h i k
theorem SameP.rf (P : Nat → Nat → Prop) (h : HS) : SameP P h h := fun _ _ _ => rfl
theorem SameP.wI {P : Nat → Nat → Prop} {h h' : HS} {i k : Nat} {v : Int32} (a : SameP P h h') (e : ¬ P i k) : SameP P h (wI h' i k v) := by
  intro x y hx
  rw [vi_wI, if_neg (fun q => by rw [q.1, q.2] at hx; exact e hx)]
  exact a x y hx
def fA (q c i k : Nat) : Prop := (i = q ∧ k ≤ 1) ∨ (i = 100 ∧ k = c)
def fB (q c i k : Nat) : Prop := (i = q ∧ 2 ≤ k ∧ k ≤ 4) ∨ (101 ≤ i ∧ i ≤ 103 ∧ k = c)
def fC (q c i k : Nat) : Prop := (i = q ∧ 5 ≤ k ∧ k ≤ 6) ∨ (104 ≤ i ∧ i ≤ 105 ∧ k = c)
def fD (q c i k : Nat) : Prop := (i = q ∧ k = 8) ∨ (i = 107 ∧ k = c) ∨ i = q + 1 ∨ (i = 106 ∧ 200 * c ≤ k ∧ k < 200 * c + 200)
def fE (q c i k : Nat) : Prop := (i = q ∧ k = 11) ∨ (i = 110 ∧ k = c) ∨ i = q + 2 ∨ i = q + 3 ∨ (108 ≤ i ∧ i ≤ 109 ∧ 40 * c ≤ k ∧ k < 40 * c + 40)
def fF (q c i k : Nat) : Prop := (i = q ∧ 12 ≤ k ∧ k ≤ 14) ∨ (111 ≤ i ∧ i ≤ 113 ∧ k = c)
def fG (q c i k : Nat) : Prop := (i = q ∧ k = 15) ∨ (i = 114 ∧ k = c)
theorem CelA.fr {h h' : HS} {q c : Nat} (A : CelA h q c) (s : SameP (fA q c) h h') : CelA h' q c := by
  unfold CelA at A ⊢
  rw [s q 0 (by unfold fA; omega), s q 1 (by unfold fA; omega), s 100 c (by unfold fA; omega)]; exact A
theorem CelB.fr {h h' : HS} {q c : Nat} (A : CelB h q c) (s : SameP (fB q c) h h') : CelB h' q c := by
  unfold CelB at A ⊢
  rw [s q 2 (by unfold fB; omega), s q 3 (by unfold fB; omega), s q 4 (by unfold fB; omega), s 101 c (by unfold fB; omega), s 102 c (by unfold fB; omega), s 103 c (by unfold fB; omega)]; exact A
theorem CelC.fr {h h' : HS} {q c : Nat} (A : CelC h q c) (s : SameP (fC q c) h h') : CelC h' q c := by
  unfold CelC at A ⊢
  rw [s q 5 (by unfold fC; omega), s q 6 (by unfold fC; omega), s 104 c (by unfold fC; omega), s 105 c (by unfold fC; omega)]; exact A
theorem CelD.fr {h h' : HS} {q c : Nat} (A : CelD h q c) (s : SameP (fD q c) h h') : CelD h' q c := by
  obtain ⟨⟨d1, d2⟩, d3⟩ := A
  have d2' := d2.2
  unfold CelD
  rw [s q 8 (by unfold fD; omega), s 107 c (by unfold fD; omega)]
  refine ⟨⟨d1, d2⟩, fun i hi => ?_⟩
  rw [s (q + 1) i (by unfold fD; omega), s 106 (200 * c + i) (by unfold fD; omega)]; exact d3 i hi
theorem CelE.fr {h h' : HS} {q c : Nat} (A : CelE h q c) (s : SameP (fE q c) h h') : CelE h' q c := by
  obtain ⟨⟨d1, d2⟩, d3, d4⟩ := A
  have d2' := d2.2
  unfold CelE
  rw [s q 11 (by unfold fE; omega), s 110 c (by unfold fE; omega)]
  refine ⟨⟨d1, d2⟩, fun i hi => ?_, fun i hi => ?_⟩
  · rw [s (q + 2) i (by unfold fE; omega), s (q + 3) i (by unfold fE; omega), s 108 (40 * c + i) (by unfold fE; omega), s 109 (40 * c + i) (by unfold fE; omega)]; exact d3 i hi
  · rw [s (q + 2) i (by unfold fE; omega), s (q + 3) i (by unfold fE; omega), s (q + 2) (i + 1) (by unfold fE; omega), s (q + 3) (i + 1) (by unfold fE; omega)]; exact d4 i hi
theorem CelF.fr {h h' : HS} {q c : Nat} (A : CelF h q c) (s : SameP (fF q c) h h') : CelF h' q c := by
  unfold CelF at A ⊢
  rw [s q 12 (by unfold fF; omega), s q 13 (by unfold fF; omega), s q 14 (by unfold fF; omega), s 111 c (by unfold fF; omega), s 112 c (by unfold fF; omega), s 113 c (by unfold fF; omega)]; exact A
theorem CelG.fr {h h' : HS} {q c : Nat} (A : CelG h q c) (s : SameP (fG q c) h h') : CelG h' q c := by
  unfold CelG at A ⊢
  rw [s q 15 (by unfold fG; omega), s 114 c (by unfold fG; omega)]; exact A
/-- a place of cellar c, whose object is q -/
def OwnW (q c i k : Nat) : Prop := (q ≤ i ∧ i < q + 4) ∨ (100 ≤ i ∧ i ≤ 114 ∧ i ≠ 106 ∧ i ≠ 108 ∧ i ≠ 109 ∧ k = c) ∨ (i = 106 ∧ 200 * c ≤ k ∧ k < 200 * c + 200) ∨ ((i = 108 ∨ i = 109) ∧ 40 * c ≤ k ∧ k < 40 * c + 40)
def Dif (q c : Nat) (h h' : HS) : Prop := hN h' = hN h ∧ (∀ i, ki h' i = ki h i) ∧ (∀ i k, ri h' i k = ri h i k) ∧ ∀ i k, ¬ OwnW q c i k → vi h' i k = vi h i k
theorem Dif.rf (q c : Nat) (h : HS) : Dif q c h h := ⟨rfl, fun _ => rfl, fun _ _ => rfl, fun _ _ _ => rfl⟩
theorem Dif.wI {q c : Nat} {h h' : HS} {i k : Nat} {v : Int32} (a : Dif q c h h') (e : OwnW q c i k) : Dif q c h (wI h' i k v) := by
  refine ⟨a.1, a.2.1, a.2.2.1, fun x y hx => ?_⟩
  rw [vi_wI, if_neg (fun z => by rw [z.1, z.2] at hx; exact hx e)]
  exact a.2.2.2 x y hx
theorem Dif.so {q c : Nat} {h h' : HS} (D : Dif q c h h') (hq : 142 ≤ q) {P : Nat → Nat → Bool} (hP : ∀ i k, P i k = true → i < 100 ∨ (114 < i ∧ i < 142)) : SameOn P h h' := by
  intro i k e
  have := hP i k e
  exact ⟨D.2.2.2 i k (by unfold OwnW; omega), D.2.2.1 i k⟩
theorem fp_W (i k : Nat) (h : fpW i k = true) : i < 100 ∨ (114 < i ∧ i < 142) := by unfold fpW at h; simp at h; omega
theorem fp_P (i k : Nat) (h : fpP i k = true) : i < 100 ∨ (114 < i ∧ i < 142) := by unfold fpP at h; simp at h; omega
theorem fp_E (i k : Nat) (h : fpE i k = true) : i < 100 ∨ (114 < i ∧ i < 142) := by unfold fpE at h; simp at h; omega
theorem fp_F (i k : Nat) (h : fpF i k = true) : i < 100 ∨ (114 < i ∧ i < 142) := by unfold fpF at h; simp at h; omega
theorem fp_T (i k : Nat) (h : fpT i k = true) : i < 100 ∨ (114 < i ∧ i < 142) := by unfold fpT at h; simp at h; omega
theorem fp_D (i k : Nat) (h : fpD i k = true) : i < 100 ∨ (114 < i ∧ i < 142) := by unfold fpD at h; simp at h; omega
theorem fp_G (i k : Nat) (h : fpG i k = true) : i < 100 ∨ (114 < i ∧ i < 142) := by unfold fpG at h; simp at h; omega
theorem fp_Q (i k : Nat) (h : fpQ i k = true) : i < 100 ∨ (114 < i ∧ i < 142) := by unfold fpQ at h; simp at h; omega
theorem Inv.cel {h h' : HS} (I : Inv h) {c q : Nat} (hc : (c : Int) < (vi h 64 2).toInt) (hq : ri h 67 c = some q) (CS : CelS h q) (D : Dif q c h h') (V : CelV h' q c) : Inv h' := by
  have b := CS.1
  have S' : Shp h' := ⟨by rw [D.1]; exact I.S.1, fun i a b => by rw [D.2.1]; exact I.S.2.1 i a b, fun i a b k r e => by rw [D.2.2.1]; exact I.S.2.2 i a b k r e⟩
  have hc6 : c < 6 := by have := I.C.1.2.2; omega
  refine ⟨S', I.D.fr (D.so b.1 fp_D), I.W.fr (D.so b.1 fp_W), I.P.fr (D.so b.1 fp_P), I.E.fr (D.so b.1 fp_E), I.F.fr (D.so b.1 fp_F), I.T.fr (D.so b.1 fp_T), I.G.fr (D.so b.1 fp_G), ?_, I.Q.fr (D.so b.1 fp_Q) (by rw [D.1]; exact Nat.le_refl _) (fun i _ => D.2.1 i) (fun i h1 h2 h3 k => ⟨D.2.2.2 i k ?_, D.2.2.1 i k⟩)⟩
  · refine I.C.one hc hq V D.1 D.2.1 (D.2.2.2 _ _ (by unfold OwnW; omega)) (D.2.2.2 _ _ (by unfold OwnW; omega)) D.2.2.1 (fun i k h1 h2 h3 => D.2.2.2 i k (fun z => ?_)) (fun i h1 h2 k => D.2.2.2 i k (by unfold OwnW; omega))
    rcases z with z | z | z | z
    · omega
    · obtain ⟨-, -, n1, n2, n3, rfl⟩ := z
      unfold ownM at h3; simp [n1, n2, n3] at h3
    · obtain ⟨rfl, z1, z2⟩ := z
      have : ownM c 106 k = true := by
        show (Nat.ble (200 * c) k && Nat.ble (k + 1) (200 * c + 200)) = true
        rw [Bool.and_eq_true, Nat.ble_eq, Nat.ble_eq]; omega
      rw [this] at h3; cases h3
    · obtain ⟨z0, z1, z2⟩ := z
      have : ownM c i k = true := by
        rcases z0 with rfl | rfl
        · show (Nat.ble (40 * c) k && Nat.ble (k + 1) (40 * c + 40)) = true
          rw [Bool.and_eq_true, Nat.ble_eq, Nat.ble_eq]; omega
        · show (Nat.ble (40 * c) k && Nat.ble (k + 1) (40 * c + 40)) = true
          rw [Bool.and_eq_true, Nat.ble_eq, Nat.ble_eq]; omega
      rw [this] at h3; cases h3
  · intro z
    have k0 := CS.o; have k1 := CS.k1; have k2 := CS.k2; have k3 := CS.k3
    have hi : i = q ∨ i = q + 1 ∨ i = q + 2 ∨ i = q + 3 := by unfold OwnW at z; omega
    rcases hi with rfl | rfl | rfl | rfl
    · omega
    · rw [k1] at h3; simp at h3
    · rw [k2] at h3; simp at h3
    · rw [k3] at h3; simp at h3
/-- whether c is a cellar -/
theorem cel_cases {h : HS} (I : Inv h) (c : Int32) : (¬ (0 ≤ c.toInt ∧ c.toInt < (vi h 64 2).toInt)) ∨ ∃ j q, c = nI j ∧ j < 6 ∧ (j : Int) < (vi h 64 2).toInt ∧ ri h 67 j = some q ∧ CelS h q ∧ CelV h q j := by
  by_cases hc : 0 ≤ c.toInt ∧ c.toInt < (vi h 64 2).toInt
  · obtain ⟨q, a1, a2, a3⟩ := I.C.2.1 c.toInt.toNat (by omega)
    exact Or.inr ⟨c.toInt.toNat, q, i_nat hc.1, by have := I.C.1.2.2; omega, by omega, a1, a2, a3⟩
  · exact Or.inl hc
