/-! a method of the class beside that of the model: they answer alike, and the invariant holds again -/
def PairI (G : GC) (Mc Mm : MI) (As : List Value) : Prop := ∀ h, Inv h → ∃ Q : Int32 → HS → Prop, (∀ K : Option Value → HS → Prop, (∀ r h1, Q r h1 → Shp h1 → K (some (.int r)) h1) → Go G 60 8 400 Mc 0 (.ref 64 :: As ++ List.replicate (Mc.2.2.2.1 - (As.length + 1)) un) [] h K) ∧
  ∀ r h1, Q r h1 → ∀ K : Option Value → HS → Prop, (∀ h2, Inv h2 → K (some (.int r)) h2) → Go G 60 0 0 Mm 0 (.ref 99 :: As ++ List.replicate (Mm.2.2.2.1 - (As.length + 1)) un) [] h1 K
def PairL (G : GC) (Mc Mm : MI) (As : List Value) : Prop := ∀ h, Inv h → ∃ Q : Int64 → HS → Prop, (∀ K : Option Value → HS → Prop, (∀ r h1, Q r h1 → Shp h1 → K (some (.long r)) h1) → Go G 60 8 400 Mc 0 (.ref 64 :: As ++ List.replicate (Mc.2.2.2.1 - (As.length + 1)) un) [] h K) ∧
  ∀ r h1, Q r h1 → ∀ K : Option Value → HS → Prop, (∀ h2, Inv h2 → K (some (.long r)) h2) → Go G 60 0 0 Mm 0 (.ref 99 :: As ++ List.replicate (Mm.2.2.2.1 - (As.length + 1)) un) [] h1 K
theorem scr_ix {i k L : Nat} (hk : k < 6) (h : i + 6 ≤ L) (hL : L ≤ 3072) : inR (nI i + nI k) L := by
  rw [nI_add]; exact inR_nI (by omega) (by omega)
theorem lg_self (X : Int64) : lg_cmp X X = 0 := by unfold lg_cmp; simp
/-- both leave all as it is -/
theorem PairI.ro {G : GC} {Mc Mm : MI} {As : List Value} (f : HS → Int32) (hc : ∀ h, Inv h → ∀ K : Option Value → HS → Prop, K (some (.int (f h))) h → Go G 60 0 0 Mc 0 (.ref 64 :: As ++ List.replicate (Mc.2.2.2.1 - (As.length + 1)) un) [] h K)
    (hm : ∀ h, Inv h → ∀ K : Option Value → HS → Prop, K (some (.int (f h))) h → Go G 60 0 0 Mm 0 (.ref 99 :: As ++ List.replicate (Mm.2.2.2.1 - (As.length + 1)) un) [] h K) : PairI G Mc Mm As := by
  intro h I
  refine ⟨fun r h1 => r = f h ∧ h1 = h, fun K k => (hc h I K (k _ _ ⟨rfl, rfl⟩ I.S)).more (by omega) (by omega) (by omega), ?_⟩
  rintro r h1 ⟨rfl, rfl⟩ K k
  exact hm h1 I K (k h1 I)
