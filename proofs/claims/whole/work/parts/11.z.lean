/-! branches and ranges in Ints -/
section GoZ
variable {G : GC} {d mc ms : Nat} {M : MI} {pc pc' tgt : Nat} {lv st : List Value} {h : HS} {K : Option Value → HS → Prop} {x y : Int32} {X Y : Int}
theorem Go_if_eqZ {off : Int} (hd : decode M.2.2.1 pc = .ok (.ifCond .eq off, 3)) (ht : (pc : Int) + off = (tgt : Int)) (hp : pc + 3 = pc') (hx : x.toInt = X) (kt : X = 0 → Go G d mc ms M tgt lv st h K) (kf : ¬ X = 0 → Go G d mc ms M pc' lv st h K) : Go G d mc ms M pc lv (.int x :: st) h K := by
  subst hx
  exact Go_if_eq hd ht hp (fun z => kt (i_eq.mp z)) (fun z => kf (fun q => z (i_eq.mpr q)))
theorem Go_icmp_eqZ {off : Int} (hd : decode M.2.2.1 pc = .ok (.if_icmp .eq off, 3)) (ht : (pc : Int) + off = (tgt : Int)) (hp : pc + 3 = pc') (hx : x.toInt = X) (hy : y.toInt = Y) (kt : X = Y → Go G d mc ms M tgt lv st h K) (kf : ¬ X = Y → Go G d mc ms M pc' lv st h K) : Go G d mc ms M pc lv (.int y :: .int x :: st) h K := by
  subst hx; subst hy
  exact Go_icmp_eq hd ht hp (fun z => kt (i_eq.mp z)) (fun z => kf (fun q => z (i_eq.mpr q)))
theorem Go_if_neZ {off : Int} (hd : decode M.2.2.1 pc = .ok (.ifCond .ne off, 3)) (ht : (pc : Int) + off = (tgt : Int)) (hp : pc + 3 = pc') (hx : x.toInt = X) (kt : ¬ X = 0 → Go G d mc ms M tgt lv st h K) (kf : X = 0 → Go G d mc ms M pc' lv st h K) : Go G d mc ms M pc lv (.int x :: st) h K := by
  subst hx
  exact Go_if_ne hd ht hp (fun z => kt (fun q => z (i_eq.mpr q))) (fun z => kf (i_eq.mp z))
theorem Go_icmp_neZ {off : Int} (hd : decode M.2.2.1 pc = .ok (.if_icmp .ne off, 3)) (ht : (pc : Int) + off = (tgt : Int)) (hp : pc + 3 = pc') (hx : x.toInt = X) (hy : y.toInt = Y) (kt : ¬ X = Y → Go G d mc ms M tgt lv st h K) (kf : X = Y → Go G d mc ms M pc' lv st h K) : Go G d mc ms M pc lv (.int y :: .int x :: st) h K := by
  subst hx; subst hy
  exact Go_icmp_ne hd ht hp (fun z => kt (fun q => z (i_eq.mpr q))) (fun z => kf (i_eq.mp z))
theorem Go_if_ltZ {off : Int} (hd : decode M.2.2.1 pc = .ok (.ifCond .lt off, 3)) (ht : (pc : Int) + off = (tgt : Int)) (hp : pc + 3 = pc') (hx : x.toInt = X) (kt : X < 0 → Go G d mc ms M tgt lv st h K) (kf : ¬ X < 0 → Go G d mc ms M pc' lv st h K) : Go G d mc ms M pc lv (.int x :: st) h K := by
  subst hx
  exact Go_if_lt hd ht hp (fun z => kt (i_lt.mp z)) (fun z => kf (fun q => z (i_lt.mpr q)))
theorem Go_icmp_ltZ {off : Int} (hd : decode M.2.2.1 pc = .ok (.if_icmp .lt off, 3)) (ht : (pc : Int) + off = (tgt : Int)) (hp : pc + 3 = pc') (hx : x.toInt = X) (hy : y.toInt = Y) (kt : X < Y → Go G d mc ms M tgt lv st h K) (kf : ¬ X < Y → Go G d mc ms M pc' lv st h K) : Go G d mc ms M pc lv (.int y :: .int x :: st) h K := by
  subst hx; subst hy
  exact Go_icmp_lt hd ht hp (fun z => kt (i_lt.mp z)) (fun z => kf (fun q => z (i_lt.mpr q)))
theorem Go_if_geZ {off : Int} (hd : decode M.2.2.1 pc = .ok (.ifCond .ge off, 3)) (ht : (pc : Int) + off = (tgt : Int)) (hp : pc + 3 = pc') (hx : x.toInt = X) (kt : 0 ≤ X → Go G d mc ms M tgt lv st h K) (kf : ¬ 0 ≤ X → Go G d mc ms M pc' lv st h K) : Go G d mc ms M pc lv (.int x :: st) h K := by
  subst hx
  exact Go_if_ge hd ht hp (fun z => kt (i_le.mp z)) (fun z => kf (fun q => z (i_le.mpr q)))
theorem Go_icmp_geZ {off : Int} (hd : decode M.2.2.1 pc = .ok (.if_icmp .ge off, 3)) (ht : (pc : Int) + off = (tgt : Int)) (hp : pc + 3 = pc') (hx : x.toInt = X) (hy : y.toInt = Y) (kt : Y ≤ X → Go G d mc ms M tgt lv st h K) (kf : ¬ Y ≤ X → Go G d mc ms M pc' lv st h K) : Go G d mc ms M pc lv (.int y :: .int x :: st) h K := by
  subst hx; subst hy
  exact Go_icmp_ge hd ht hp (fun z => kt (i_le.mp z)) (fun z => kf (fun q => z (i_le.mpr q)))
theorem Go_if_gtZ {off : Int} (hd : decode M.2.2.1 pc = .ok (.ifCond .gt off, 3)) (ht : (pc : Int) + off = (tgt : Int)) (hp : pc + 3 = pc') (hx : x.toInt = X) (kt : 0 < X → Go G d mc ms M tgt lv st h K) (kf : ¬ 0 < X → Go G d mc ms M pc' lv st h K) : Go G d mc ms M pc lv (.int x :: st) h K := by
  subst hx
  exact Go_if_gt hd ht hp (fun z => kt (i_lt.mp z)) (fun z => kf (fun q => z (i_lt.mpr q)))
theorem Go_icmp_gtZ {off : Int} (hd : decode M.2.2.1 pc = .ok (.if_icmp .gt off, 3)) (ht : (pc : Int) + off = (tgt : Int)) (hp : pc + 3 = pc') (hx : x.toInt = X) (hy : y.toInt = Y) (kt : Y < X → Go G d mc ms M tgt lv st h K) (kf : ¬ Y < X → Go G d mc ms M pc' lv st h K) : Go G d mc ms M pc lv (.int y :: .int x :: st) h K := by
  subst hx; subst hy
  exact Go_icmp_gt hd ht hp (fun z => kt (i_lt.mp z)) (fun z => kf (fun q => z (i_lt.mpr q)))
theorem Go_if_leZ {off : Int} (hd : decode M.2.2.1 pc = .ok (.ifCond .le off, 3)) (ht : (pc : Int) + off = (tgt : Int)) (hp : pc + 3 = pc') (hx : x.toInt = X) (kt : X ≤ 0 → Go G d mc ms M tgt lv st h K) (kf : ¬ X ≤ 0 → Go G d mc ms M pc' lv st h K) : Go G d mc ms M pc lv (.int x :: st) h K := by
  subst hx
  exact Go_if_le hd ht hp (fun z => kt (i_le.mp z)) (fun z => kf (fun q => z (i_le.mpr q)))
theorem Go_icmp_leZ {off : Int} (hd : decode M.2.2.1 pc = .ok (.if_icmp .le off, 3)) (ht : (pc : Int) + off = (tgt : Int)) (hp : pc + 3 = pc') (hx : x.toInt = X) (hy : y.toInt = Y) (kt : X ≤ Y → Go G d mc ms M tgt lv st h K) (kf : ¬ X ≤ Y → Go G d mc ms M pc' lv st h K) : Go G d mc ms M pc lv (.int y :: .int x :: st) h K := by
  subst hx; subst hy
  exact Go_icmp_le hd ht hp (fun z => kt (i_le.mp z)) (fun z => kf (fun q => z (i_le.mpr q)))
end GoZ
theorem s_withinZ {G : GC} {d mc ms : Nat} {v lo hi : Int32} {l u : Int} {h : HS} {K : Option Value → HS → Prop} (hl : lo.toInt = l) (hu : hi.toInt = u) (hk : K (some (.int (b2i (l ≤ v.toInt ∧ v.toInt ≤ u)))) h) : Go G d mc ms M_X11_within 0 [.int v, .int lo, .int hi] [] h K := by
  subst hl; subst hu
  refine s_within ?_
  rw [b2i_congr (Q := lo.toInt ≤ v.toInt ∧ v.toInt ≤ hi.toInt) (by rw [i_le, i_le])]; exact hk
theorem s_isInZ {G : GC} {d mc ms : Nat} {v lo hi : Int32} {l u : Int} {h : HS} {K : Option Value → HS → Prop} (hl : lo.toInt = l) (hu : hi.toInt = u) (hk : K (some (.int (b2i (l ≤ v.toInt ∧ v.toInt ≤ u)))) h) : Go G d mc ms M_X12_isIn 0 [.int v, .int lo, .int hi] [] h K := by
  subst hl; subst hu
  refine s_isIn ?_
  rw [b2i_congr (Q := lo.toInt ≤ v.toInt ∧ v.toInt ≤ hi.toInt) (by rw [i_le, i_le])]; exact hk
theorem s_isCellZ {G : GC} {d mc ms : Nat} {x y : Int32} {h : HS} {K : Option Value → HS → Prop} (hk : K (some (.int (b2i ((0 ≤ x.toInt ∧ x.toInt ≤ 39) ∧ (0 ≤ y.toInt ∧ y.toInt ≤ 39))))) h) : Go G (d + 1) mc ms M_X11_isCell 0 [.int x, .int y] [] h K := by
  refine s_isCell ?_
  rw [b2i_congr (Q := (0 ≤ x.toInt ∧ x.toInt ≤ 39) ∧ (0 ≤ y.toInt ∧ y.toInt ≤ 39)) (by simp only [i_le]; exact Iff.rfl)]; exact hk
theorem s_isCellMZ {G : GC} {d mc ms : Nat} {x y : Int32} {h : HS} {K : Option Value → HS → Prop} (hk : K (some (.int (b2i ((0 ≤ x.toInt ∧ x.toInt ≤ 39) ∧ (0 ≤ y.toInt ∧ y.toInt ≤ 39))))) h) : Go G (d + 1) mc ms M_X12_isCell 0 [.int x, .int y] [] h K := by
  refine s_isCellM ?_
  rw [b2i_congr (Q := (0 ≤ x.toInt ∧ x.toInt ≤ 39) ∧ (0 ≤ y.toInt ∧ y.toInt ≤ 39)) (by simp only [i_le]; exact Iff.rfl)]; exact hk
theorem b2i_fz {P : Prop} [Decidable P] : fits .boolean (.int (b2i P)) = true := by
  by_cases h : P
  · rw [b2i_t h]; rfl
  · rw [b2i_f h]; rfl
