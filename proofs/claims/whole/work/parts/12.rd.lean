/-! reads behind writes -/
theorem vi_skip {h : HS} {i k a b : Nat} {v : Int32} (e : a ≠ i ∨ b ≠ k) : vi (wI h i k v) a b = vi h a b := by
  rw [vi_wI, if_neg]
  rintro ⟨q1, q2⟩
  rcases e with e | e
  · exact e q1
  · exact e q2
theorem vi_same {h : HS} {i k : Nat} {v : Int32} : vi (wI h i k v) i k = v := by rw [vi_wI, if_pos ⟨rfl, rfl⟩]
theorem ri_skip {h : HS} {i k a b : Nat} {v : Option Nat} (e : a ≠ i ∨ b ≠ k) : ri (wR h i k v) a b = ri h a b := by
  rw [ri_wR, if_neg]
  rintro ⟨q1, q2⟩
  rcases e with e | e
  · exact e q1
  · exact e q2
theorem ri_same {h : HS} {i k : Nat} {v : Option Nat} : ri (wR h i k v) i k = v := by rw [ri_wR, if_pos ⟨rfl, rfl⟩]
theorem Go_getIv {G : GC} {d mc ms : Nat} {M : MI} {pc pc' idx i t k : Nat} {lv st : List Value} {h : HS} {K : Option Value → HS → Prop} {v : Int32} (hd : decode M.2.2.1 pc = .ok (.getfield idx, 3)) (hp : pc + 3 = pc') (hl : Cond.fieldLink M.1 idx (clT t k).1 (clT t k).2.1 (clT t k).2.2.1 ∈ Tg) (ht : t < 13) (hk : k < nF t) (hr : isR t k = false) (hi : 64 ≤ i ∧ i < 64 + hN h) (hkd : (ki h i).1 = t) (hv : vi h i k = v)
    (kk : Go G d mc ms M pc' lv (.int v :: st) h K) : Go G d mc ms M pc lv (.ref i :: st) h K := by
  refine Go_getI hd hp hl ht hk hr hi hkd ?_
  rw [hv]; exact kk
