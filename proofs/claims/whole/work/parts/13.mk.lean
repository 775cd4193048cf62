/-! makings with their cell's number told -/
section GoM
variable {G : GC} {d mc ms mcT msT : Nat} {M : MI} {pc pc' idx t n N j : Nat} {lv st : List Value} {h : HS} {K : Option Value → HS → Prop} {x : Int32}
theorem Go_newL (hd : decode M.2.2.1 pc = .ok (.new idx, 3)) (hp : pc + 3 = pc') (ht : t < 13) (hl : Cond.classLink M.1 idx (clN t) ∈ Tg) (hins : Cond.instantiable (clN t) (nF t) ∈ Tg) (hini : Cond.initialized (clN t) ∈ Tg) (hdef : ∀ j, j < nF t → defaultValue (fty t j) = if isR t j = true then .null else .int 0) (hb1 : mc + 1 ≤ mcT) (hb2 : ms + nF t ≤ msT) (e : 64 + hN h = N) (kk : Go G d mc ms M pc' lv (.ref N :: st) (nw h (t, 0)) K) : Go G d mcT msT M pc lv st h K := by
  subst e
  exact (Go_new hd hp ht hl hins hini hdef kk).more (Nat.le_refl _) hb1 hb2
theorem Go_newarrayL {at0 : ArrayType} (hd : decode M.2.2.1 pc = .ok (.newarray at0, 2)) (hp : pc + 2 = pc') (hat : (newarray.typeOf at0 = .int ∧ t = 20) ∨ (newarray.typeOf at0 = .boolean ∧ t = 21)) (hx : x = Int32.ofNat n) (hn0 : n ≤ 100000) (hb1 : mc + 1 ≤ mcT) (hb2 : ms + n ≤ msT) (e : 64 + hN h = N) (kk : Go G d mc ms M pc' lv (.ref N :: st) (nw h (t, n)) K) : Go G d mcT msT M pc lv (.int x :: st) h K := by
  subst e
  exact (Go_newarray hd hp hat hx hn0 kk).more (Nat.le_refl _) hb1 hb2
theorem Go_anewarrayL (hd : decode M.2.2.1 pc = .ok (.anewarray idx, 3)) (hp : pc + 3 = pc') (hj : aTy t = some j) (hl : Cond.classLink M.1 idx (clN (t - 30)) ∈ Tg) (hao : ∀ U H, Ex G U H → va_AO (clN (t - 30)) U) (hx : x = Int32.ofNat n) (hn0 : n ≤ 100000) (hb1 : mc + 1 ≤ mcT) (hb2 : ms + n ≤ msT) (e : 64 + hN h = N) (kk : Go G d mc ms M pc' lv (.ref N :: st) (nw h (t, n)) K) : Go G d mcT msT M pc lv (.int x :: st) h K := by
  subst e
  exact (Go_anewarray hd hp hj hl hao hx hn0 kk).more (Nat.le_refl _) hb1 hb2
end GoM
theorem ao2 {G : GC} (U : State) (H : Heap) (h : Ex G U H) : va_AO (clN (32 - 30)) U := h.2.1.1
theorem ao5 {G : GC} (U : State) (H : Heap) (h : Ex G U H) : va_AO (clN (35 - 30)) U := h.2.1.2.1
theorem ao6 {G : GC} (U : State) (H : Heap) (h : Ex G U H) : va_AO (clN (36 - 30)) U := h.2.1.2.2
theorem defv (t : Nat) (ht : t < 13) : ∀ j, j < nF t → defaultValue (fty t j) = if isR t j = true then .null else .int 0 := by
  match t, ht with
  | 0, _ | 1, _ | 2, _ | 3, _ | 4, _ | 5, _ | 6, _ | 7, _ | 8, _ | 9, _ | 10, _ | 11, _ | 12, _ => decide +kernel
/-- a row of ints set anew -/
def setR (h : HS) (i : Nat) (f : Nat → Int32) : HS := (h.1, h.2.1, fun a b => if a = i then f b else h.2.2.1 a b, h.2.2.2)
theorem setR_wI (h : HS) (i k : Nat) (f : Nat → Int32) (v : Int32) : wI (setR h i f) i k v = setR h i (upd f k v) := by
  unfold wI setR
  refine congrArg (fun z => (h.1, h.2.1, z, h.2.2.2)) ?_
  funext a b
  by_cases e : a = i
  · subst e
    by_cases q : b = k
    · subst q; simp [upd]
    · simp [upd, q]
  · simp [e]
theorem setR_self (h : HS) (i : Nat) : setR h i (vi h i) = h := by
  unfold setR vi
  refine congrArg (fun z => (h.1, h.2.1, z, h.2.2.2)) ?_
  funext a b
  by_cases e : a = i
  · subst e; simp
  · simp [e]
theorem vi_setR (h : HS) (i : Nat) (f : Nat → Int32) (k : Nat) : vi (setR h i f) i k = f k := by unfold vi setR; simp
