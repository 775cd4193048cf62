/-! rows that store into locals -/
/-- no long ends at place i -/
def nl (lv : List Value) (i : Nat) : Bool := match i with
  | 0 => true
  | j + 1 => match lv[j]? with
    | some (.long _) => false
    | some (.double _) => false
    | _ => true
theorem nl_cat {lv : List Value} {i j : Nat} {v : Value} (h : nl lv i = true) (hj : lv[j]? = some v) (hi : j + 1 = i) : ¬ v.category = 2 := by
  subst hi
  intro hc
  simp only [nl, hj] at h
  cases v <;> simp [Value.category] at hc <;> simp at h
def aL (G : GC) (lv : List Value) : List (Nat × Value) := (List.range lv.length).filterMap (fun i => match lv[i]? with
  | some v => if v = un then none else some (i, cv G v)
  | none => none)
theorem aL_mem {G : GC} {lv : List Value} {i : Nat} {v : Value} (h : lv[i]? = some v) (hu : v ≠ un) : (i, cv G v) ∈ aL G lv := by
  refine List.mem_filterMap.mpr ⟨i, List.mem_range.mpr (List.getElem?_eq_some_iff.mp h).1, ?_⟩
  rw [h]; exact if_neg hu
theorem aL_has {G : GC} {M : MI} {ls : Array Slot} {lv : List Value} (L : Lr G M ls lv) : lv_has ls M.2.2.2.1 (aL G lv) := by
  refine ⟨L.1, L.2.1, fun q hq => ?_⟩
  obtain ⟨i, -, hi⟩ := List.mem_filterMap.mp hq
  cases hv : lv[i]? with
  | none => rw [hv] at hi; cases hi
  | some v =>
    rw [hv] at hi
    change (if v = un then none else some (i, cv G v)) = some q at hi
    by_cases hu : v = un
    · rw [if_pos hu] at hi; cases hi
    · rw [if_neg hu] at hi; cases hi; exact L.2.2.2 i v hv hu
theorem Lr.set1 {G : GC} {M : MI} {ls' : Array Slot} {lv : List Value} {i : Nat} {w : Value} (hlen : lv.length = M.2.2.2.1) (hn : nl lv i = true)
    (h : lv_has ls' M.2.2.2.1 ((i, cv G w) :: (aL G lv).filter (fun q => !(q.1 == i) && !(q.1 + 1 == i && q.2.category == 2)))) : Lr G M ls' (lv.set i w) := by
  refine ⟨h.1, h.2.1, by rw [List.length_set]; exact hlen, fun j v hj hu => ?_⟩
  by_cases e : j = i
  · subst e
    rw [List.getElem?_set_self (by have := (List.getElem?_eq_some_iff.mp hj).1; rwa [List.length_set] at this)] at hj
    cases hj
    exact h.2.2 _ List.mem_cons_self
  · rw [List.getElem?_set_ne (Ne.symm e)] at hj
    refine h.2.2 (j, cv G v) (List.mem_cons_of_mem _ (List.mem_filter.mpr ⟨aL_mem hj hu, ?_⟩))
    have h2 : ¬ (j + 1 = i ∧ (cv G v).category = 2) := fun q => nl_cat hn hj q.1 (by rw [← cv_cat G]; exact q.2)
    by_cases a : j + 1 = i
    · have b : ¬ (cv G v).category = 2 := fun q => h2 ⟨a, q⟩
      simp [e, b]
    · simp [e, a]
theorem Lr.set2 {G : GC} {M : MI} {ls' : Array Slot} {lv : List Value} {i : Nat} {w : Value} (hlen : lv.length = M.2.2.2.1) (hn : nl lv i = true)
    (h : lv_has ls' M.2.2.2.1 ((i, cv G w) :: (aL G lv).filter (fun q => !(q.1 == i) && (!(q.1 == i + 1) && !(q.1 + 1 == i && q.2.category == 2))))) : Lr G M ls' ((lv.set (i + 1) un).set i w) := by
  refine ⟨h.1, h.2.1, by rw [List.length_set, List.length_set]; exact hlen, fun j v hj hu => ?_⟩
  by_cases e : j = i
  · subst e
    rw [List.getElem?_set_self (by have := (List.getElem?_eq_some_iff.mp hj).1; rwa [List.length_set] at this)] at hj
    cases hj
    exact h.2.2 _ List.mem_cons_self
  · rw [List.getElem?_set_ne (Ne.symm e)] at hj
    by_cases e2 : j = i + 1
    · subst e2
      rw [List.getElem?_set_self (by have := (List.getElem?_eq_some_iff.mp hj).1; rwa [List.length_set] at this)] at hj
      cases hj
      exact absurd rfl hu
    · rw [List.getElem?_set_ne (Ne.symm e2)] at hj
      refine h.2.2 (j, cv G v) (List.mem_cons_of_mem _ (List.mem_filter.mpr ⟨aL_mem hj hu, ?_⟩))
      have h2 : ¬ (j + 1 = i ∧ (cv G v).category = 2) := fun q => nl_cat hn hj q.1 (by rw [← cv_cat G]; exact q.2)
      by_cases a : j + 1 = i
      · have b : ¬ (cv G v).category = 2 := fun q => h2 ⟨a, q⟩
        simp [e, e2, b]
      · simp [e, e2, a]
section GoB
variable {G : GC} {d mc ms : Nat} {M : MI} {pc pc' tgt : Nat} {lv lv' st : List Value} {h : HS} {K : Option Value → HS → Prop} {x y : Int32} {X Y : Int64}
theorem Go_istore {i : Nat} (hd : decode M.2.2.1 pc = .ok (.istore i, 2)) (hp : pc + 2 = pc') (hi : i < M.2.2.2.1) (hn : nl lv i = true) (hl : lv.set i (.int x) = lv') (k : Go G d mc ms M pc' lv' st h K) : Go G d mc ms M pc lv (.int x :: st) h K := by
  subst hp; subst hl
  exact fun p e s m args below meth c R H locs cells slots Q ls f1 f2 f3 a b c1 c2 q => lv_istore f1.1 f1.2.1 hd (aL_has f3) hi rfl (fun ls' hl' => k p e s m args below meth c R H locs cells slots Q ls' f1 f2 (Lr.set1 (w := .int x) f3.2.2.1 hn hl') a b c1 c2 q)
theorem Go_istore_n {i : Fin 4} {j : Nat} (hd : decode M.2.2.1 pc = .ok (.istore_n i, 1)) (hp : pc + 1 = pc') (hij : (i : Nat) = j) (hi : j < M.2.2.2.1) (hn : nl lv j = true) (hl : lv.set j (.int x) = lv') (k : Go G d mc ms M pc' lv' st h K) : Go G d mc ms M pc lv (.int x :: st) h K := by
  subst hp; subst hl
  exact fun p e s m args below meth c R H locs cells slots Q ls f1 f2 f3 a b c1 c2 q => lv_istore_n f1.1 f1.2.1 hd hij (aL_has f3) hi rfl (fun ls' hl' => k p e s m args below meth c R H locs cells slots Q ls' f1 f2 (Lr.set1 (w := .int x) f3.2.2.1 hn hl') a b c1 c2 q)
theorem Go_astore {i r : Nat} (hd : decode M.2.2.1 pc = .ok (.astore i, 2)) (hp : pc + 2 = pc') (hi : i < M.2.2.2.1) (hn : nl lv i = true) (hl : lv.set i (.ref r) = lv') (k : Go G d mc ms M pc' lv' st h K) : Go G d mc ms M pc lv (.ref r :: st) h K := by
  subst hp; subst hl
  exact fun p e s m args below meth c R H locs cells slots Q ls f1 f2 f3 a b c1 c2 q => lv_astore f1.1 f1.2.1 hd (aL_has f3) hi rfl (fun ls' hl' => k p e s m args below meth c R H locs cells slots Q ls' f1 f2 (Lr.set1 (w := .ref r) f3.2.2.1 hn hl') a b c1 c2 q)
theorem Go_astore_n {i : Fin 4} {j r : Nat} (hd : decode M.2.2.1 pc = .ok (.astore_n i, 1)) (hp : pc + 1 = pc') (hij : (i : Nat) = j) (hi : j < M.2.2.2.1) (hn : nl lv j = true) (hl : lv.set j (.ref r) = lv') (k : Go G d mc ms M pc' lv' st h K) : Go G d mc ms M pc lv (.ref r :: st) h K := by
  subst hp; subst hl
  exact fun p e s m args below meth c R H locs cells slots Q ls f1 f2 f3 a b c1 c2 q => lv_astore_n f1.1 f1.2.1 hd hij (aL_has f3) hi rfl (fun ls' hl' => k p e s m args below meth c R H locs cells slots Q ls' f1 f2 (Lr.set1 (w := .ref r) f3.2.2.1 hn hl') a b c1 c2 q)
theorem Go_astoreN {i : Nat} (hd : decode M.2.2.1 pc = .ok (.astore i, 2)) (hp : pc + 2 = pc') (hi : i < M.2.2.2.1) (hn : nl lv i = true) (hl : lv.set i .null = lv') (k : Go G d mc ms M pc' lv' st h K) : Go G d mc ms M pc lv (.null :: st) h K := by
  subst hp; subst hl
  exact fun p e s m args below meth c R H locs cells slots Q ls f1 f2 f3 a b c1 c2 q => lv_astoreN f1.1 f1.2.1 hd (aL_has f3) hi rfl (fun ls' hl' => k p e s m args below meth c R H locs cells slots Q ls' f1 f2 (Lr.set1 (w := .null) f3.2.2.1 hn hl') a b c1 c2 q)
theorem Go_astore_nN {i : Fin 4} {j : Nat} (hd : decode M.2.2.1 pc = .ok (.astore_n i, 1)) (hp : pc + 1 = pc') (hij : (i : Nat) = j) (hi : j < M.2.2.2.1) (hn : nl lv j = true) (hl : lv.set j .null = lv') (k : Go G d mc ms M pc' lv' st h K) : Go G d mc ms M pc lv (.null :: st) h K := by
  subst hp; subst hl
  exact fun p e s m args below meth c R H locs cells slots Q ls f1 f2 f3 a b c1 c2 q => lv_astore_nN f1.1 f1.2.1 hd hij (aL_has f3) hi rfl (fun ls' hl' => k p e s m args below meth c R H locs cells slots Q ls' f1 f2 (Lr.set1 (w := .null) f3.2.2.1 hn hl') a b c1 c2 q)
theorem Go_lstore {i : Nat} (hd : decode M.2.2.1 pc = .ok (.lstore i, 2)) (hp : pc + 2 = pc') (hi : i + 1 < M.2.2.2.1) (hn : nl lv i = true) (hl : (lv.set (i + 1) un).set i (.long X) = lv') (k : Go G d mc ms M pc' lv' st h K) : Go G d mc ms M pc lv (.long X :: st) h K := by
  subst hp; subst hl
  exact fun p e s m args below meth c R H locs cells slots Q ls f1 f2 f3 a b c1 c2 q => lv_lstore f1.1 f1.2.1 hd (aL_has f3) hi rfl (fun ls' hl' => k p e s m args below meth c R H locs cells slots Q ls' f1 f2 (Lr.set2 (w := .long X) f3.2.2.1 hn hl') a b c1 c2 q)
theorem Go_lstore_n {i : Fin 4} {j : Nat} (hd : decode M.2.2.1 pc = .ok (.lstore_n i, 1)) (hp : pc + 1 = pc') (hij : (i : Nat) = j) (hi : j + 1 < M.2.2.2.1) (hn : nl lv j = true) (hl : (lv.set (j + 1) un).set j (.long X) = lv') (k : Go G d mc ms M pc' lv' st h K) : Go G d mc ms M pc lv (.long X :: st) h K := by
  subst hp; subst hl
  exact fun p e s m args below meth c R H locs cells slots Q ls f1 f2 f3 a b c1 c2 q => lv_lstore_n f1.1 f1.2.1 hd hij (aL_has f3) hi rfl (fun ls' hl' => k p e s m args below meth c R H locs cells slots Q ls' f1 f2 (Lr.set2 (w := .long X) f3.2.2.1 hn hl') a b c1 c2 q)
theorem Go_iinc {i : Nat} {n : Int} {v : Int32} (hd : decode M.2.2.1 pc = .ok (.iinc i n, 3)) (hp : pc + 3 = pc') (hx : lv[i]? = some (.int x)) (hv : x + Int32.ofInt n = v) (hi : i < M.2.2.2.1) (hn : nl lv i = true) (hl : lv.set i (.int v) = lv') (k : Go G d mc ms M pc' lv' st h K) : Go G d mc ms M pc lv st h K := by
  subst hp; subst hl
  intro p e s m args below meth c R H locs cells slots Q ls f1 f2 f3 a b c1 c2 q
  obtain ⟨j, hj⟩ := List.getElem?_of_mem (aL_mem (G := G) hx (by intro z; cases z))
  exact lv_iinc f1.1 f1.2.1 hd (aL_has f3) hj hv hi rfl (fun ls' hl' => k p e s m args below meth c R H locs cells slots Q ls' f1 f2 (Lr.set1 (w := .int v) f3.2.2.1 hn hl') a b c1 c2 q)
end GoB
