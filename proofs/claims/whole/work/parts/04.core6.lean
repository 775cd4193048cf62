/-! rows for fields, arrays and makings -/
theorem vi_row (h : HS) (i k : Nat) (v : Int32) : vi (wI h i k v) i = upd (vi h i) k v := by
  funext j
  rw [vi_wI]
  by_cases e : j = k
  · subst e; simp [upd]
  · rw [if_neg (fun q => e q.2)]; simp [upd, e]
theorem ri_row (G : GC) (h : HS) (i k : Nat) (v : Option Nat) : (fun j => (ri (wR h i k v) i j).map (ad G)) = va_up (fun j => (ri h i j).map (ad G)) k (v.map (ad G)) := by
  funext j
  show Option.map (ad G) (ri (wR h i k v) i j) = _
  rw [ri_wR]
  by_cases e : j = k
  · subst e; simp [va_up]
  · rw [if_neg (fun q => e q.2)]; simp [va_up, e]
theorem cell_wI {G : GC} {h : HS} {i k : Nat} {v : Int32} (a : Nat) (ha : a ≠ i) : cellE G (wI h i k v) a = cellE G h a := cell_same rfl (fun b => by rw [vi_wI, if_neg (fun q => ha q.1)]) (fun b => rfl)
theorem cell_wR {G : GC} {h : HS} {i k : Nat} {v : Option Nat} (a : Nat) (ha : a ≠ i) : cellE G (wR h i k v) a = cellE G h a := cell_same rfl (fun b => rfl) (fun b => by rw [ri_wR, if_neg (fun q => ha q.1)])
theorem cell_nw {G : GC} {h : HS} {t : Kd} (a : Nat) (ha : a < 64 + hN h) : cellE G (nw h t) a = cellE G h a := cell_same (by rw [ki_nw, if_neg (Nat.ne_of_lt ha)]) (fun b => by rw [vi_nw, if_neg (Nat.ne_of_lt ha)]) (fun b => by rw [ri_nw, if_neg (Nat.ne_of_lt ha)])
/-- an index within -/
def inR (x : Int32) (n : Nat) : Prop := 0 ≤ x.toInt ∧ x.toInt < n
theorem inR_vp {x : Int32} {n : Nat} (h : inR x n) : vp_in x n := vp_in_iff.mpr h
section GoD
variable {G : GC} {d mc ms : Nat} {M : MI} {pc pc' idx i t k n : Nat} {lv st : List Value} {h : HS} {K : Option Value → HS → Prop} {x y : Int32}
theorem Go_getI (hd : decode M.2.2.1 pc = .ok (.getfield idx, 3)) (hp : pc + 3 = pc') (hl : Cond.fieldLink M.1 idx (clT t k).1 (clT t k).2.1 (clT t k).2.2.1 ∈ Tg) (ht : t < 13) (hk : k < nF t) (hr : isR t k = false) (hi : 64 ≤ i ∧ i < 64 + hN h) (hkd : (ki h i).1 = t)
    (kk : Go G d mc ms M pc' lv (.int (vi h i k) :: st) h K) : Go G d mc ms M pc lv (.ref i :: st) h K := by
  subst hp
  intro p e s m args below meth c R H locs cells slots Q ls f1 f2 f3 a1 a2 a3 a4 q
  have hT := f1.2.2.2.2.1
  have hc : (cw G h)[i - 64]? = some (ad G i, .inr (t, fsOf G h t i)) := by rw [cw_at hi.1 hi.2, cell_obj (t := t) (n := (ki h i).2) (by rw [← hkd]) ht]
  exact va_get f1.1 f1.2.1 hT (cls_in ht) f1.2.2.2.1 f1.2.2.2.2.2.2.2.2.1 f2.2.1 (i - 64) hc (cls_at ht) k hk (hT _ hl) (fun x hx => hx) (fs_int hk hr) hd (kk p e s m args below meth c R H locs cells slots Q ls f1 f2 f3 a1 a2 a3 a4 q)
theorem Go_getR (hd : decode M.2.2.1 pc = .ok (.getfield idx, 3)) (hp : pc + 3 = pc') (hl : Cond.fieldLink M.1 idx (clT t k).1 (clT t k).2.1 (clT t k).2.2.1 ∈ Tg) (ht : t < 13) (hk : k < nF t) (hr : isR t k = true) (hi : 64 ≤ i ∧ i < 64 + hN h) (hkd : (ki h i).1 = t)
    (kk : Go G d mc ms M pc' lv (va_rf (ri h i k) :: st) h K) : Go G d mc ms M pc lv (.ref i :: st) h K := by
  subst hp
  intro p e s m args below meth c R H locs cells slots Q ls f1 f2 f3 a1 a2 a3 a4 q
  have hT := f1.2.2.2.2.1
  have hc : (cw G h)[i - 64]? = some (ad G i, .inr (t, fsOf G h t i)) := by rw [cw_at hi.1 hi.2, cell_obj (t := t) (n := (ki h i).2) (by rw [← hkd]) ht]
  refine va_get f1.1 f1.2.1 hT (cls_in ht) f1.2.2.2.1 f1.2.2.2.2.2.2.2.2.1 f2.2.1 (i - 64) hc (cls_at ht) k hk (hT _ hl) (fun x hx => hx) (fs_ref hk hr) hd ?_
  have z := kk p e s m args below meth c R H locs cells slots Q ls f1 f2 f3 a1 a2 a3 a4 q
  rw [List.map_cons, cv_rf] at z
  exact z
theorem Go_putI (hd : decode M.2.2.1 pc = .ok (.putfield idx, 3)) (hp : pc + 3 = pc') (hl : Cond.fieldLink M.1 idx (clT t k).1 (clT t k).2.1 (clT t k).2.2.1 ∈ Tg) (ht : t < 13) (hk : k < nF t) (hr : isR t k = false) (hi : 64 ≤ i ∧ i < 64 + hN h) (hkd : (ki h i).1 = t) (hfin : (clT t k).2.2.2 = false ∨ ((clT t k).2.2.2 = true ∧ M.2.1.name = "<init>" ∧ (clT t k).1 = M.1)) (hn : narrow (fty t k) (.int x) = .int x) (hf : fits (fty t k) (.int x) = true)
    (kk : Go G d mc ms M pc' lv st (wI h i k x) K) : Go G d mc ms M pc lv (.int x :: .ref i :: st) h K := by
  subst hp
  intro p e s m args below meth c R H locs cells slots Q ls f1 f2 f3 a1 a2 a3 a4 q
  have hT := f1.2.2.2.2.1
  have hc : (cw G h)[i - 64]? = some (ad G i, .inr (t, fsOf G h t i)) := by rw [cw_at hi.1 hi.2, cell_obj (t := t) (n := (ki h i).2) (by rw [← hkd]) ht]
  have hset : (cw G h).set (i - 64) (ad G i, .inr (t, (fsOf G h t i).set k (.int x))) = cw G (wI h i k x) :=
    cw_set hi.1 hi.2 rfl (by rw [cell_obj (t := t) (n := (ki h i).2) (by rw [ki_wI, ← hkd]) ht, fs_wI hk hr]) (fun a ha => cell_wI a ha)
  have fin : ∀ (H1 : Heap) (locs1 : List Loc), H1.size = H.size → va_P (gD G) vwCl ((cw G h).set (i - 64) (ad G i, .inr (t, (fsOf G h t i).set k (.int x)))) H1 → va_S (gA G) s.heap H1 locs1 → W p (gl G) e R s m args below meth c H1 locs1 cells slots Q (F0 m (pc + 3) ls (st.map (cv G))) := by
    intro H1 locs1 hz hP1 hS1
    rw [hset] at hP1
    exact kk p e s m args below meth c R H1 locs1 cells slots Q ls f1 ⟨hz.trans f2.1, hP1, hS1⟩ f3 a1 a2 a3 a4 q
  rcases hfin with hfin | ⟨hfin, hin, hdc⟩
  · exact zz_put f1.1 f1.2.1 hT (cls_in ht) (fty t) (cls_ty ht) (cls_nm ht) f1.2.2.2.1 f1.2.2.2.2.2.2.2.2.1 f2.2.1 (cw_D G h) f2.2.2 (i - 64) hc (cls_at ht) k hk (hT _ hl) (fun x hx => hx) hfin (cls_ty ht k hk) hn hf (by rw [fs_len]; exact hk) hd fin
  · exact zz_putF f1.1 f1.2.1 hT (cls_in ht) (fty t) (cls_ty ht) (cls_nm ht) f1.2.2.2.1 f1.2.2.2.2.2.2.2.2.1 f2.2.1 (cw_D G h) f2.2.2 (i - 64) hc (cls_at ht) k hk (hT _ hl) (fun x hx => hx) hfin (f1.2.2.2.2.2.2.2.1.trans hin) hdc (cls_ty ht k hk) hn hf (by rw [fs_len]; exact hk) hd fin
theorem Go_putR {r : Option Nat} (hd : decode M.2.2.1 pc = .ok (.putfield idx, 3)) (hp : pc + 3 = pc') (hl : Cond.fieldLink M.1 idx (clT t k).1 (clT t k).2.1 (clT t k).2.2.1 ∈ Tg) (ht : t < 13) (hk : k < nF t) (hr : isR t k = true) (hi : 64 ≤ i ∧ i < 64 + hN h) (hkd : (ki h i).1 = t) (hfin : (clT t k).2.2.2 = false ∨ ((clT t k).2.2.2 = true ∧ M.2.1.name = "<init>" ∧ (clT t k).1 = M.1)) (hn : ∀ v : Option Nat, narrow (fty t k) (va_rf v) = va_rf v ∧ fits (fty t k) (va_rf v) = true)
    (kk : Go G d mc ms M pc' lv st (wR h i k r) K) : Go G d mc ms M pc lv (va_rf r :: .ref i :: st) h K := by
  subst hp
  intro p e s m args below meth c R H locs cells slots Q ls f1 f2 f3 a1 a2 a3 a4 q
  have hT := f1.2.2.2.2.1
  have hc : (cw G h)[i - 64]? = some (ad G i, .inr (t, fsOf G h t i)) := by rw [cw_at hi.1 hi.2, cell_obj (t := t) (n := (ki h i).2) (by rw [← hkd]) ht]
  have hset : (cw G h).set (i - 64) (ad G i, .inr (t, (fsOf G h t i).set k (va_rf (r.map (ad G))))) = cw G (wR h i k r) :=
    cw_set hi.1 hi.2 rfl (by rw [cell_obj (t := t) (n := (ki h i).2) (by rw [ki_wR, ← hkd]) ht, fs_wR hk hr]) (fun a ha => cell_wR a ha)
  have fin : ∀ (H1 : Heap) (locs1 : List Loc), H1.size = H.size → va_P (gD G) vwCl ((cw G h).set (i - 64) (ad G i, .inr (t, (fsOf G h t i).set k (va_rf (r.map (ad G)))))) H1 → va_S (gA G) s.heap H1 locs1 → W p (gl G) e R s m args below meth c H1 locs1 cells slots Q (F0 m (pc + 3) ls (st.map (cv G))) := by
    intro H1 locs1 hz hP1 hS1
    rw [hset] at hP1
    exact kk p e s m args below meth c R H1 locs1 cells slots Q ls f1 ⟨hz.trans f2.1, hP1, hS1⟩ f3 a1 a2 a3 a4 q
  rw [List.map_cons, cv_rf]
  rcases hfin with hfin | ⟨hfin, hin, hdc⟩
  · exact zz_put f1.1 f1.2.1 hT (cls_in ht) (fty t) (cls_ty ht) (cls_nm ht) f1.2.2.2.1 f1.2.2.2.2.2.2.2.2.1 f2.2.1 (cw_D G h) f2.2.2 (i - 64) hc (cls_at ht) k hk (hT _ hl) (fun x hx => hx) hfin (cls_ty ht k hk) (hn _).1 (hn _).2 (by rw [fs_len]; exact hk) hd fin
  · exact zz_putF f1.1 f1.2.1 hT (cls_in ht) (fty t) (cls_ty ht) (cls_nm ht) f1.2.2.2.1 f1.2.2.2.2.2.2.2.2.1 f2.2.1 (cw_D G h) f2.2.2 (i - 64) hc (cls_at ht) k hk (hT _ hl) (fun x hx => hx) hfin (f1.2.2.2.2.2.2.2.1.trans hin) hdc (cls_ty ht k hk) (hn _).1 (hn _).2 (by rw [fs_len]; exact hk) hd fin
theorem Go_ialoadX {x : Int32} (hd : decode M.2.2.1 pc = .ok (.iaload, 1)) (hp : pc + 1 = pc') (hi : 64 ≤ i ∧ i < 64 + hN h) (hkd : ki h i = (20, n)) (hx : inR x n) (kk : Go G d mc ms M pc' lv (.int (vi h i x.toNatClampNeg) :: st) h K) : Go G d mc ms M pc lv (.int x :: .ref i :: st) h K := by
  subst hp
  intro p e s m args below meth c R H locs cells slots Q ls f1 f2 f3 a1 a2 a3 a4 q
  have hc : (cw G h)[i - 64]? = some (ad G i, .inl (gt G 20, n, .inl (vi h i))) := by rw [cw_at hi.1 hi.2, cell_int hkd (by decide) (by decide)]
  exact va_iald f1.1 f1.2.1 f1.2.2.2.2.2.2.2.2.1 f2.2.1 (i - 64) 0 hc rfl (inR_vp hx) hd (kk p e s m args below meth c R H locs cells slots Q ls f1 f2 f3 a1 a2 a3 a4 q)
theorem Go_baloadX {x : Int32} (hd : decode M.2.2.1 pc = .ok (.baload, 1)) (hp : pc + 1 = pc') (hi : 64 ≤ i ∧ i < 64 + hN h) (hkd : ki h i = (21, n)) (hx : inR x n) (kk : Go G d mc ms M pc' lv (.int (vi h i x.toNatClampNeg) :: st) h K) : Go G d mc ms M pc lv (.int x :: .ref i :: st) h K := by
  subst hp
  intro p e s m args below meth c R H locs cells slots Q ls f1 f2 f3 a1 a2 a3 a4 q
  have hc : (cw G h)[i - 64]? = some (ad G i, .inl (gt G 21, n, .inl (vi h i))) := by rw [cw_at hi.1 hi.2, cell_int hkd (by decide) (by decide)]
  exact va_zald f1.1 f1.2.1 f1.2.2.2.2.2.2.2.2.1 f2.2.1 (i - 64) 1 hc rfl (inR_vp hx) hd (kk p e s m args below meth c R H locs cells slots Q ls f1 f2 f3 a1 a2 a3 a4 q)
/-- which array classes of references there are -/
def aTy (t : Nat) : Option Nat := if t = 32 then some 2 else if t = 35 then some 3 else if t = 36 then some 4 else none
theorem tyL_at {t j : Nat} (h : aTy t = some j) : (tyL G)[j]? = some (gt G t, .object (clN (t - 30))) := by
  unfold aTy at h
  by_cases h1 : t = 32
  · subst h1; cases h; rfl
  · rw [if_neg h1] at h
    by_cases h2 : t = 35
    · subst h2; cases h; rfl
    · rw [if_neg h2] at h
      by_cases h3 : t = 36
      · subst h3; cases h; rfl
      · rw [if_neg h3] at h; cases h
theorem aTy_30 {t j : Nat} (h : aTy t = some j) : ¬ t < 30 ∧ t - 30 < 13 := by
  unfold aTy at h
  by_cases h1 : t = 32
  · omega
  · rw [if_neg h1] at h
    by_cases h2 : t = 35
    · omega
    · rw [if_neg h2] at h
      by_cases h3 : t = 36
      · omega
      · rw [if_neg h3] at h; cases h
theorem Go_aaload {j : Nat} {x : Int32} (hd : decode M.2.2.1 pc = .ok (.aaload, 1)) (hp : pc + 1 = pc') (hi : 64 ≤ i ∧ i < 64 + hN h) (hkd : ki h i = (t, n)) (hj : aTy t = some j) (hx : inR x n) (kk : Go G d mc ms M pc' lv (va_rf (ri h i x.toNatClampNeg) :: st) h K) : Go G d mc ms M pc lv (.int x :: .ref i :: st) h K := by
  subst hp
  intro p e s m args below meth c R H locs cells slots Q ls f1 f2 f3 a1 a2 a3 a4 q
  have hc : (cw G h)[i - 64]? = some (ad G i, .inl (gt G t, n, .inr (.inr (.inr (.inr (fun j => (ri h i j).map (ad G))))))) := by rw [cw_at hi.1 hi.2, cell_ref hkd (aTy_30 hj).1]
  refine va_aldq f1.1 f1.2.1 f1.2.2.2.2.2.2.2.2.1 f2.2.1 (i - 64) j hc (tyL_at hj) (inR_vp hx) hd ?_
  have z := kk p e s m args below meth c R H locs cells slots Q ls f1 f2 f3 a1 a2 a3 a4 q
  rw [List.map_cons, cv_rf] at z
  exact z
theorem Go_iastore {x v : Int32} (hd : decode M.2.2.1 pc = .ok (.iastore, 1)) (hp : pc + 1 = pc') (hi : 64 ≤ i ∧ i < 64 + hN h) (hkd : ki h i = (20, n)) (hx : inR x n) (kk : Go G d mc ms M pc' lv st (wI h i x.toNatClampNeg v) K) : Go G d mc ms M pc lv (.int v :: .int x :: .ref i :: st) h K := by
  subst hp
  intro p e s m args below meth c R H locs cells slots Q ls f1 f2 f3 a1 a2 a3 a4 q
  have hc : (cw G h)[i - 64]? = some (ad G i, .inl (gt G 20, n, .inl (vi h i))) := by rw [cw_at hi.1 hi.2, cell_int hkd (by decide) (by decide)]
  refine zz_iast f1.1 f1.2.1 f1.2.2.2.2.2.2.2.2.1 f2.2.1 (cw_D G h) f2.2.2 (i - 64) 0 hc rfl (inR_vp hx) hd ?_
  intro H1 locs1 hz hP1 hS1
  rw [cw_set (h' := wI h i x.toNatClampNeg v) hi.1 hi.2 rfl (by rw [cell_int (h := wI h i x.toNatClampNeg v) (t := 20) (n := n) hkd (by decide) (by decide), vi_row]) (fun a ha => cell_wI a ha)] at hP1
  exact kk p e s m args below meth c R H1 locs1 cells slots Q ls f1 ⟨hz.trans f2.1, hP1, hS1⟩ f3 a1 a2 a3 a4 q
theorem Go_bastore {x v : Int32} (hd : decode M.2.2.1 pc = .ok (.bastore, 1)) (hp : pc + 1 = pc') (hi : 64 ≤ i ∧ i < 64 + hN h) (hkd : ki h i = (21, n)) (hx : inR x n) (hv : vp_nar .boolean v = v) (kk : Go G d mc ms M pc' lv st (wI h i x.toNatClampNeg v) K) : Go G d mc ms M pc lv (.int v :: .int x :: .ref i :: st) h K := by
  subst hp
  intro p e s m args below meth c R H locs cells slots Q ls f1 f2 f3 a1 a2 a3 a4 q
  have hc : (cw G h)[i - 64]? = some (ad G i, .inl (gt G 21, n, .inl (vi h i))) := by rw [cw_at hi.1 hi.2, cell_int hkd (by decide) (by decide)]
  refine zz_zast f1.1 f1.2.1 f1.2.2.2.2.2.2.2.2.1 f2.2.1 (cw_D G h) f2.2.2 (i - 64) 1 hc rfl (inR_vp hx) hd ?_
  intro H1 locs1 hz hP1 hS1
  rw [hv] at hP1
  rw [cw_set (h' := wI h i x.toNatClampNeg v) hi.1 hi.2 rfl (by rw [cell_int (h := wI h i x.toNatClampNeg v) (t := 21) (n := n) hkd (by decide) (by decide), vi_row]) (fun a ha => cell_wI a ha)] at hP1
  exact kk p e s m args below meth c R H1 locs1 cells slots Q ls f1 ⟨hz.trans f2.1, hP1, hS1⟩ f3 a1 a2 a3 a4 q
theorem Go_aastore {j b : Nat} {x : Int32} (hd : decode M.2.2.1 pc = .ok (.aastore, 1)) (hp : pc + 1 = pc') (hi : 64 ≤ i ∧ i < 64 + hN h) (hkd : ki h i = (t, n)) (hj : aTy t = some j) (hb : 64 ≤ b ∧ b < 64 + hN h) (hkb : (ki h b).1 = t - 30) (hx : inR x n) (kk : Go G d mc ms M pc' lv st (wR h i x.toNatClampNeg (some b)) K) : Go G d mc ms M pc lv (.ref b :: .int x :: .ref i :: st) h K := by
  subst hp
  intro p e s m args below meth c R H locs cells slots Q ls f1 f2 f3 a1 a2 a3 a4 q
  have h30 := aTy_30 hj
  have hc : (cw G h)[i - 64]? = some (ad G i, .inl (gt G t, n, .inr (.inr (.inr (.inr (fun j => (ri h i j).map (ad G))))))) := by rw [cw_at hi.1 hi.2, cell_ref hkd h30.1]
  have hcb : (cw G h)[b - 64]? = some (ad G b, .inr (t - 30, fsOf G h (t - 30) b)) := by rw [cw_at hb.1 hb.2, cell_obj (t := t - 30) (n := (ki h b).2) (by rw [← hkb]) h30.2]
  refine zz_astq f1.1 f1.2.1 f1.2.2.2.2.2.2.2.2.1 f2.2.1 (cw_D G h) f2.2.2 (i - 64) j (b - 64) (t - 30) hc (tyL_at hj) hcb (cls_at h30.2) (inR_vp hx) hd ?_
  intro H1 locs1 hz hP1 hS1
  rw [cw_set (h' := wR h i x.toNatClampNeg (some b)) hi.1 hi.2 rfl (by rw [cell_ref (h := wR h i x.toNatClampNeg (some b)) (t := t) (n := n) hkd h30.1, ri_row]; rfl) (fun a ha => cell_wR a ha)] at hP1
  exact kk p e s m args below meth c R H1 locs1 cells slots Q ls f1 ⟨hz.trans f2.1, hP1, hS1⟩ f3 a1 a2 a3 a4 q
theorem Go_alen {v : Int32} (hd : decode M.2.2.1 pc = .ok (.arraylength, 1)) (hp : pc + 1 = pc') (hi : 64 ≤ i ∧ i < 64 + hN h) (hkd : ki h i = (t, n)) (hj : t = 20 ∨ t = 21 ∨ ∃ j, aTy t = some j) (hv : Int32.ofNat n = v) (kk : Go G d mc ms M pc' lv (.int v :: st) h K) : Go G d mc ms M pc lv (.ref i :: st) h K := by
  subst hp
  intro p e s m args below meth c R H locs cells slots Q ls f1 f2 f3 a1 a2 a3 a4 q
  have z := kk p e s m args below meth c R H locs cells slots Q ls f1 f2 f3 a1 a2 a3 a4 q
  rcases hj with rfl | rfl | ⟨j, hj⟩
  · have hc : (cw G h)[i - 64]? = some (ad G i, .inl (gt G 20, n, .inl (vi h i))) := by rw [cw_at hi.1 hi.2, cell_int hkd (by decide) (by decide)]
    exact va_alen f1.1 f1.2.1 f1.2.2.2.2.2.2.2.2.1 f2.2.1 (i - 64) 0 hc rfl hv hd z
  · have hc : (cw G h)[i - 64]? = some (ad G i, .inl (gt G 21, n, .inl (vi h i))) := by rw [cw_at hi.1 hi.2, cell_int hkd (by decide) (by decide)]
    exact va_alen f1.1 f1.2.1 f1.2.2.2.2.2.2.2.2.1 f2.2.1 (i - 64) 1 hc rfl hv hd z
  · have hc : (cw G h)[i - 64]? = some (ad G i, .inl (gt G t, n, .inr (.inr (.inr (.inr (fun j => (ri h i j).map (ad G))))))) := by rw [cw_at hi.1 hi.2, cell_ref hkd (aTy_30 hj).1]
    exact va_alen f1.1 f1.2.1 f1.2.2.2.2.2.2.2.2.1 f2.2.1 (i - 64) j hc (tyL_at hj) hv hd z
theorem Go_newarray {at0 : ArrayType} {x : Int32} {N : Nat} (hd : decode M.2.2.1 pc = .ok (.newarray at0, 2)) (hp : pc + 2 = pc') (hat : (newarray.typeOf at0 = .int ∧ t = 20) ∨ (newarray.typeOf at0 = .boolean ∧ t = 21)) (hx : x = Int32.ofNat N) (hN0 : N ≤ 100000) (kk : Go G d mc ms M pc' lv (.ref (64 + hN h) :: st) (nw h (t, N)) K) : Go G d (mc + 1) (ms + N) M pc lv (.int x :: st) h K := by
  subst hp
  intro p e s m args below meth c R H locs cells slots Q ls f1 f2 f3 a1 a2 a3 a4 q
  have hT := f1.2.2.2.2.1
  have hn0 : ¬ x < 0 := by rw [hx]; exact nI_pos (by omega)
  have hcl : x.toNatClampNeg = N := by rw [hx]; exact nI_clamp (by omega)
  have fin : ∀ (H1 : Heap), H1.size = H.size + 1 → va_P (gD G) vwCl (cw G h ++ [(H.size, .inl (gt G t, N, .inl (fun _ => 0)))]) H1 → va_S (gA G) s.heap H1 locs → t < 30 → ¬ t < 13 → W p (gl G) e R s m args below meth c H1 locs (cells + 1) (slots + N) Q (F0 m (pc + 2) ls (.ref H.size :: st.map (cv G))) := by
    intro H1 hz hP1 hS1 t1 t2
    rw [f2.1, cw_push (h' := nw h (t, N)) rfl (by rw [cell_int (h := nw h (t, N)) (t := t) (n := N) (by rw [ki_nw, if_pos rfl]) t2 t1]; congr 3; congr 1; funext b; rw [vi_nw, if_pos rfl]) (fun a ha => cell_nw a ha)] at hP1
    have z := kk p e s m args below meth c R H1 locs (cells + 1) (slots + N) Q ls f1 ⟨by rw [hz, f2.1]; rfl, hP1, hS1⟩ f3 a1 a2 (by omega) (by omega) (fun r h' pc' H' locs' cells' slots' ls' e1 e2 e3 e4 e5 => q r h' pc' H' locs' cells' slots' ls' e1 e2 e3 (by omega) (by omega))
    rw [List.map_cons] at z
    rw [f2.1, ← ad_cell]
    exact z
  rcases hat with ⟨hat, rfl⟩ | ⟨hat, rfl⟩
  · refine zz_newa f1.1 f1.2.1 (by rw [hat]; exact hT _ ka_int) hat (va_nm_int (f1.2.2.2.2.2.2.2.2.1.2 0 _ rfl).2) f2.2.1 f2.2.2 (a0 := (N, .inl (fun _ => 0))) (fun cA => rfl) hn0 hcl (by show N * 4 ≤ _; omega) (by omega) (by omega) hd (fun H1 hz hP1 hS1 => fin H1 hz hP1 hS1 (by decide) (by decide))
  · refine zz_newa f1.1 f1.2.1 (by rw [hat]; exact hT _ ka_boolean) hat (va_nm_boolean (f1.2.2.2.2.2.2.2.2.1.2 1 _ rfl).2) f2.2.1 f2.2.2 (a0 := (N, .inl (fun _ => 0))) (fun cA => rfl) hn0 hcl (by show N * 1 ≤ _; omega) (by omega) (by omega) hd (fun H1 hz hP1 hS1 => fin H1 hz hP1 hS1 (by decide) (by decide))
theorem Go_anewarray {x : Int32} {N j : Nat} (hd : decode M.2.2.1 pc = .ok (.anewarray idx, 3)) (hp : pc + 3 = pc') (hj : aTy t = some j) (hl : Cond.classLink M.1 idx (clN (t - 30)) ∈ Tg) (hao : ∀ U H, Ex G U H → va_AO (clN (t - 30)) U) (hx : x = Int32.ofNat N) (hN0 : N ≤ 100000) (kk : Go G d mc ms M pc' lv (.ref (64 + hN h) :: st) (nw h (t, N)) K) : Go G d (mc + 1) (ms + N) M pc lv (.int x :: st) h K := by
  subst hp
  intro p e s m args below meth c R H locs cells slots Q ls f1 f2 f3 a1 a2 a3 a4 q
  have hT := f1.2.2.2.2.1
  have hn0 : ¬ x < 0 := by rw [hx]; exact nI_pos (by omega)
  have hcl : x.toNatClampNeg = N := by rw [hx]; exact nI_clamp (by omega)
  have h30 := aTy_30 hj
  have hra := (f1.2.2.2.2.2.2.2.2.1.2 j _ (tyL_at hj)).2
  obtain ⟨kA, comp, -, -, -, hnm⟩ := hra
  refine zz_newq f1.1 f1.2.1 f1.2.2.2.1 (hT _ hl) (va_AO.use (hao _ _ f1.2.2.2.2.2.2.2.2.2.1)) hnm f2.2.1 f2.2.2 hn0 hcl (by omega) (by omega) (by omega) hd ?_
  intro H1 hz hP1 hS1
  rw [f2.1, cw_push (h' := nw h (t, N)) rfl (by rw [cell_ref (h := nw h (t, N)) (t := t) (n := N) (by rw [ki_nw, if_pos rfl]) h30.1]; congr 7; funext b; rw [ri_nw, if_pos rfl]; rfl) (fun a ha => cell_nw a ha)] at hP1
  have z := kk p e s m args below meth c R H1 locs (cells + 1) (slots + N) Q ls f1 ⟨by rw [hz, f2.1]; rfl, hP1, hS1⟩ f3 a1 a2 (by omega) (by omega) (fun r h' pc' H' locs' cells' slots' ls' e1 e2 e3 e4 e5 => q r h' pc' H' locs' cells' slots' ls' e1 e2 e3 (by omega) (by omega))
  rw [List.map_cons] at z
  rw [f2.1, ← ad_cell]
  exact z
theorem Go_new (hd : decode M.2.2.1 pc = .ok (.new idx, 3)) (hp : pc + 3 = pc') (ht : t < 13) (hl : Cond.classLink M.1 idx (clN t) ∈ Tg) (hins : Cond.instantiable (clN t) (nF t) ∈ Tg) (hini : Cond.initialized (clN t) ∈ Tg) (hdef : ∀ j, j < nF t → defaultValue (fty t j) = if isR t j = true then .null else .int 0) (kk : Go G d mc ms M pc' lv (.ref (64 + hN h) :: st) (nw h (t, 0)) K) : Go G d (mc + 1) (ms + nF t) M pc lv st h K := by
  subst hp
  intro p e s m args below meth c R H locs cells slots Q ls f1 f2 f3 a1 a2 a3 a4 q
  have hT := f1.2.2.2.2.1
  refine zz_new (fs := fsOf G (nw h (t, 0)) t (64 + hN h)) f1.1 f1.2.1 hT (cls_in ht) (fty t) (cls_ty ht) f1.2.2.2.1 (hT _ hl) (hT _ hins) (hT _ hini) f1.2.2.2.2.2.2.2.2.1 f2.2.1 f2.2.2 (cls_at ht) ?_ (by omega) (by omega) hd ?_
  · intro j hj
    rw [hdef j hj]
    cases hr : isR t j with
    | true =>
      have := fs_ref (G := G) (h := nw h (t, 0)) (i := 64 + hN h) hj hr
      rw [ri_nw, if_pos rfl] at this
      simp [vp_V, this, va_rf]
    | false =>
      have := fs_int (G := G) (h := nw h (t, 0)) (i := 64 + hN h) hj hr
      rw [vi_nw, if_pos rfl] at this
      simp [vp_V, this]
  · intro H1 hz hP1 hS1
    rw [f2.1, cw_push (h' := nw h (t, 0)) rfl (by rw [cell_obj (h := nw h (t, 0)) (t := t) (n := 0) (by rw [ki_nw, if_pos rfl]) ht]) (fun a ha => cell_nw a ha)] at hP1
    have z := kk p e s m args below meth c R H1 locs (cells + 1) (slots + nF t) Q ls f1 ⟨by rw [hz, f2.1]; rfl, hP1, hS1⟩ f3 a1 a2 (by omega) (by omega) (fun r h' pc' H' locs' cells' slots' ls' e1 e2 e3 e4 e5 => q r h' pc' H' locs' cells' slots' ls' e1 e2 e3 (by omega) (by omega))
    rw [List.map_cons] at z
    rw [f2.1, ← ad_cell]
    exact z
/-- the script -/
theorem Go_scriptLd {x : Int32} (hd : decode M.2.2.1 pc = .ok (.iaload, 1)) (hp : pc + 1 = pc') (hx : inR x (gL G)) (kk : Go G d mc ms M pc' lv (.int (gX G x.toNatClampNeg) :: st) h K) : Go G d mc ms M pc lv (.int x :: .ref 0 :: st) h K := by
  subst hp
  intro p e s m args below meth c R H locs cells slots Q ls f1 f2 f3 a1 a2 a3 a4 q
  have hE := f1.2.2.2.2.2.2.2.2.2.1.1
  exact va_sld f1.1 f1.2.1 hE.1 (Nat.lt_of_lt_of_le hE.2 f1.2.2.2.2.2.2.2.2.2.2) (Nat.not_le.mpr hE.2) f2.2.2 (inR_vp hx) hd (kk p e s m args below meth c R H locs cells slots Q ls f1 f2 f3 a1 a2 a3 a4 q)
theorem Go_scriptLen (hd : decode M.2.2.1 pc = .ok (.arraylength, 1)) (hp : pc + 1 = pc') (kk : Go G d mc ms M pc' lv (.int (Int32.ofNat (gL G)) :: st) h K) : Go G d mc ms M pc lv (.ref 0 :: st) h K := by
  subst hp
  intro p e s m args below meth c R H locs cells slots Q ls f1 f2 f3 a1 a2 a3 a4 q
  have hE := f1.2.2.2.2.2.2.2.2.2.1.1
  exact va_slen f1.1 f1.2.1 hE.1 (Nat.lt_of_lt_of_le hE.2 f1.2.2.2.2.2.2.2.2.2.2) (Nat.not_le.mpr hE.2) f2.2.2 hd (kk p e s m args below meth c R H locs cells slots Q ls f1 f2 f3 a1 a2 a3 a4 q)
/-- the constant texts -/
theorem gx_ad {G : GC} {i : Nat} (h : i < 64) : ad G i = gx G i := by unfold ad; exact if_pos h
theorem Go_ldcS {tx : String} {j : Nat} (hd : decode M.2.2.1 pc = .ok (.ldc idx, 2)) (hp : pc + 2 = pc') (hs : (M.1, idx, tx, j) ∈ siteL) (hj : j < 15) (kk : Go G d mc ms M pc' lv (.ref (1 + 2 * j) :: st) h K) : Go G d mc ms M pc lv st h K := by
  subst hp
  intro p e s m args below meth c R H locs cells slots Q ls f1 f2 f3 a1 a2 a3 a4 q
  have hE := f1.2.2.2.2.2.2.2.2.2.1.2.2.2.1 _ hs
  refine va_ldcS f1.1 f1.2.1 f1.2.2.2.1 hE hd ?_
  have z := kk p e s m args below meth c R H locs cells slots Q ls f1 f2 f3 a1 a2 a3 a4 q
  rw [List.map_cons] at z
  rw [← gx_ad (G := G) (show 1 + 2 * j < 64 by omega)]
  exact z
theorem Go_strValue {j : Nat} (hd : decode M.2.2.1 pc = .ok (.getfield idx, 3)) (hp : pc + 3 = pc') (hl : Cond.fieldLink M.1 idx "java/lang/String" "value" "[B" ∈ Tg) (hj : j < 15) (kk : Go G d mc ms M pc' lv (.ref (2 + 2 * j) :: st) h K) : Go G d mc ms M pc lv (.ref (1 + 2 * j) :: st) h K := by
  subst hp
  intro p e s m args below meth c R H locs cells slots Q ls f1 f2 f3 a1 a2 a3 a4 q
  have hE := (f1.2.2.2.2.2.2.2.2.2.1.2.2.2.2.1 j hj).2.1
  have z := kk p e s m args below meth c R H locs cells slots Q ls f1 f2 f3 a1 a2 a3 a4 q
  rw [List.map_cons, show cv G (.ref (2 + 2 * j)) = .ref (gx G (2 + 2 * j)) from by show Value.ref (ad G _) = _; rw [gx_ad (by omega)]] at z
  rw [List.map_cons, show cv G (.ref (1 + 2 * j)) = .ref (gx G (1 + 2 * j)) from by show Value.ref (ad G _) = _; rw [gx_ad (by omega)]]
  exact vk_getf f1.1 f1.2.1 hE f2.2.2 f1.2.2.2.1 (f1.2.2.2.2.1 _ hl) (fun x hx => hx) hd z
theorem Go_strCoder {j : Nat} (hd : decode M.2.2.1 pc = .ok (.getfield idx, 3)) (hp : pc + 3 = pc') (hl : Cond.fieldLink M.1 idx "java/lang/String" "coder" "B" ∈ Tg) (hj : j < 15) (kk : Go G d mc ms M pc' lv (.int 0 :: st) h K) : Go G d mc ms M pc lv (.ref (1 + 2 * j) :: st) h K := by
  subst hp
  intro p e s m args below meth c R H locs cells slots Q ls f1 f2 f3 a1 a2 a3 a4 q
  have hE := (f1.2.2.2.2.2.2.2.2.2.1.2.2.2.2.1 j hj).2.2.1
  have z := kk p e s m args below meth c R H locs cells slots Q ls f1 f2 f3 a1 a2 a3 a4 q
  rw [List.map_cons, show cv G (.ref (1 + 2 * j)) = .ref (gx G (1 + 2 * j)) from by show Value.ref (ad G _) = _; rw [gx_ad (by omega)]]
  exact vk_getf f1.1 f1.2.1 hE f2.2.2 f1.2.2.2.1 (f1.2.2.2.2.1 _ hl) (fun x hx => hx) hd z
theorem Go_strLen {j : Nat} {v : Int32} (hd : decode M.2.2.1 pc = .ok (.arraylength, 1)) (hp : pc + 1 = pc') (hj : j < 15) (hv : Int32.ofNat (strT j).length = v) (kk : Go G d mc ms M pc' lv (.int v :: st) h K) : Go G d mc ms M pc lv (.ref (2 + 2 * j) :: st) h K := by
  subst hp
  intro p e s m args below meth c R H locs cells slots Q ls f1 f2 f3 a1 a2 a3 a4 q
  have hE := (f1.2.2.2.2.2.2.2.2.2.1.2.2.2.2.1 j hj).2.2.2
  have z := kk p e s m args below meth c R H locs cells slots Q ls f1 f2 f3 a1 a2 a3 a4 q
  rw [List.map_cons, show cv G (.ref (2 + 2 * j)) = .ref (gx G (2 + 2 * j)) from by show Value.ref (ad G _) = _; rw [gx_ad (by omega)]]
  exact va_tlen f1.1 f1.2.1 hE f2.2.2 hv hd z
theorem Go_strByte {j : Nat} {x v : Int32} (hd : decode M.2.2.1 pc = .ok (.baload, 1)) (hp : pc + 1 = pc') (hj : j < 15) (hx : inR x (strT j).length) (hv : (strT j).getD x.toNatClampNeg 0 = v) (kk : Go G d mc ms M pc' lv (.int v :: st) h K) : Go G d mc ms M pc lv (.int x :: .ref (2 + 2 * j) :: st) h K := by
  subst hp
  intro p e s m args below meth c R H locs cells slots Q ls f1 f2 f3 a1 a2 a3 a4 q
  have hE := (f1.2.2.2.2.2.2.2.2.2.1.2.2.2.2.1 j hj).2.2.2
  have z := kk p e s m args below meth c R H locs cells slots Q ls f1 f2 f3 a1 a2 a3 a4 q
  rw [List.map_cons, List.map_cons, show cv G (.ref (2 + 2 * j)) = .ref (gx G (2 + 2 * j)) from by show Value.ref (ad G _) = _; rw [gx_ad (by omega)]]
  exact va_tb f1.1 f1.2.1 hE f2.2.2 (inR_vp hx) (by show Value.int _ = Value.int v; rw [hv]) hd z
theorem Go_compact (hd : decode M.2.2.1 pc = .ok (.getstatic idx, 3)) (hp : pc + 3 = pc') (hl : Cond.fieldLink M.1 idx "java/lang/String" "COMPACT_STRINGS" "Z" ∈ Tg) (kk : Go G d mc ms M pc' lv (.int 1 :: st) h K) : Go G d mc ms M pc lv st h K := by
  subst hp
  intro p e s m args below meth c R H locs cells slots Q ls f1 f2 f3 a1 a2 a3 a4 q
  have hE := f1.2.2.2.2.2.2.2.2.2.1.2.2.2.2.2.1
  exact va_gets f1.1 f1.2.1 hE f2.2.2 f1.2.2.2.1 (f1.2.2.2.2.1 _ hl) (fun x hx => hx) hd (kk p e s m args below meth c R H locs cells slots Q ls f1 f2 f3 a1 a2 a3 a4 q)
theorem Go_formatter (hd : decode M.2.2.1 pc = .ok (.getstatic idx, 3)) (hp : pc + 3 = pc') (hl : Cond.fieldLink M.1 idx "jdk/internal/util/Preconditions" "SIOOBE_FORMATTER" "Ljava/util/function/BiFunction;" ∈ Tg) (kk : Go G d mc ms M pc' lv (fmV G :: st) h K) : Go G d mc ms M pc lv st h K := by
  subst hp
  intro p e s m args below meth c R H locs cells slots Q ls f1 f2 f3 a1 a2 a3 a4 q
  have hE := f1.2.2.2.2.2.2.2.2.2.1.2.2.2.2.2.2
  exact va_gets f1.1 f1.2.1 hE f2.2.2 f1.2.2.2.1 (f1.2.2.2.2.1 _ hl) (fun x hx => hx) hd (kk p e s m args below meth c R H locs cells slots Q ls f1 f2 f3 a1 a2 a3 a4 q)
theorem Go_callVS {d' mc2 ms2 mcT msT j : Nat} {M' : MI} {lv0 st0 As : List Value} (hd : decode M.2.2.1 pc = .ok (.invokevirtual idx, 3)) (hp : pc + 3 = pc') (ho : okV M' n) (hl : Cond.methodLink M.1 idx M'.2.1 ∈ Tg) (hj : j < 15) (hcl : M'.2.1.cls = "java/lang/String") (hn : As.length = n) (hA : n + 1 ≤ M'.2.2.2.1) (hc : cat1 As = true) (hst : As.reverse ++ .ref (1 + 2 * j) :: st = st0) (hlv : .ref (1 + 2 * j) :: As ++ List.replicate (M'.2.2.2.1 - (As.length + 1)) un = lv0) (h8 : (st.map fun v => v.category).sum ≤ 8) (hdd : d' < d) (hb1 : mc2 + mc ≤ mcT) (hb2 : ms2 + ms ≤ msT)
    (kk : Go G d' mc2 ms2 M' 0 lv0 [] h (fun r h' => Go G d mc ms M pc' lv (r.toList ++ st) h' K)) : Go G d mcT msT M pc lv st0 h K := by
  subst hlv; subst hst; subst hn
  refine Go.ofRun (a := ((Value.ref (1 + 2 * j) :: As).map (cv G)).toArray) (K' := fun r h' => Go G d mc ms M pc' lv (r.toList ++ st) h' K) hp hb1 hb2 ?_ (fun r h' hk => hk)
  intro p e s m args below meth c R H locs cells slots ls f1 f2 f3 a1 a2 a3 a4
  have hM := Go.met (G := G) (As := .ref (1 + 2 * j) :: As) ho.1 hA (by show (1 == 1 && cat1 As) = true; rw [hc]; rfl) kk
  have hT := f1.2.2.2.2.1
  obtain ⟨cell, r1, r2, r3, r4⟩ := (f1.2.2.2.2.2.2.2.2.2.1.2.2.2.2.1 j hj).1
  have hrc : ∃ cellB : Cell, H[ad G (1 + 2 * j)]? = some cellB ∧ cellB.vm.isStatics = false ∧ s.vm.findClass M'.2.1.cls = some cellB.cls := by
    rw [gx_ad (by omega), hcl]
    refine ⟨cell, ?_, r2, r3⟩
    rw [f2.2.2.2.1 _ (Array.getElem?_eq_some_iff.mp r1).1 r4]
    exact r1
  refine va_runV (As := As.map (cv G)) (b := ad G (1 + 2 * j)) (C := M'.2.1.cls) (maxL := M'.2.2.2.1) (bytes := M'.2.2.1) (ret := M'.2.2.2.2) (n := As.length) ⟨f1.1, f1.2.1, f1.2.2.1, f1.2.2.2.1, hT⟩ hM ⟨?_, hT _ ho.2.1, hT _ ho.2.2⟩ ⟨PcM.blind G h (.ref (1 + 2 * j) :: As), hrc, fun U hU hW => PcM.now (As := .ref (1 + 2 * j) :: As) f1 f2 hU hW⟩ rfl (by simp) f3.1 (by simp [cv]) ?_ hd ⟨a3, a4⟩
  · exact callB_of (R := R) (own := M.1) (index := idx) (rm := rmD d' mc2 ms2) (mc := mc2) (ms := ms2) As.length hT (gin ho.1.1) rfl rfl rfl (hT _ ho.1.2.1) (hT _ hl) ho.1.2.2.2.1 ⟨by show d' + 1 ≤ R.frames; omega, by have := ho.1.2.2.2.2.2; show 8 + (_ + 11) + 41 * d' ≤ R.locals; omega⟩
  · exact lv_room (by rw [cv_cats]; exact h8)
end GoD
