/-! calls by what they answer; branches on truths -/
def b2i (P : Prop) [Decidable P] : Int32 := if P then 1 else 0
theorem b2i_t {P : Prop} [Decidable P] (h : P) : b2i P = 1 := if_pos h
theorem b2i_f {P : Prop} [Decidable P] (h : ¬ P) : b2i P = 0 := if_neg h
theorem b2i_ne {P : Prop} [Decidable P] : ¬ b2i P = 0 ↔ P := by
  by_cases h : P
  · rw [b2i_t h]; exact ⟨fun _ => h, fun _ => by decide⟩
  · rw [b2i_f h]; exact ⟨fun q => absurd rfl q, fun q => absurd q h⟩
theorem b2i_eq {P : Prop} [Decidable P] : b2i P = 0 ↔ ¬ P := by
  by_cases h : P
  · rw [b2i_t h]; exact ⟨fun q => absurd q (by decide), fun q => absurd h q⟩
  · rw [b2i_f h]; exact ⟨fun _ => h, fun _ => rfl⟩
theorem b2i_congr {P Q : Prop} [Decidable P] [Decidable Q] (h : P ↔ Q) : b2i P = b2i Q := by
  by_cases a : P
  · rw [b2i_t a, b2i_t (h.mp a)]
  · rw [b2i_f a, b2i_f (fun q => a (h.mpr q))]
theorem b2i_nb {P : Prop} [Decidable P] : narrow .boolean (.int (b2i P)) = .int (b2i P) := by
  by_cases h : P
  · rw [b2i_t h]; rfl
  · rw [b2i_f h]; rfl
theorem b2i_vp {P : Prop} [Decidable P] : vp_nar .boolean (b2i P) = b2i P := by
  by_cases h : P
  · rw [b2i_t h]; rfl
  · rw [b2i_f h]; rfl
theorem b2i_01 (P : Prop) [Decidable P] : b2i P = 0 ∨ b2i P = 1 := by
  by_cases h : P
  · exact Or.inr (b2i_t h)
  · exact Or.inl (b2i_f h)
def KI (f : Int32 → HS → Prop) : Option Value → HS → Prop := fun r h => ∃ x, r = some (.int x) ∧ f x h
def KL (f : Int64 → HS → Prop) : Option Value → HS → Prop := fun r h => ∃ x, r = some (.long x) ∧ f x h
def KR (f : Option Nat → HS → Prop) : Option Value → HS → Prop := fun r h => ∃ x, r = some (va_rf x) ∧ f x h
def KV (f : HS → Prop) : Option Value → HS → Prop := fun r h => r = none ∧ f h
section GoE
variable {G : GC} {d d' mc ms mc2 ms2 mcT msT n idx : Nat} {M M' : MI} {pc pc' tgt : Nat} {lv lv0 st st0 As : List Value} {h : HS} {K : Option Value → HS → Prop}
theorem Go_if_eqb {P : Prop} [Decidable P] {off : Int} (hd : decode M.2.2.1 pc = .ok (.ifCond .eq off, 3)) (ht : (pc : Int) + off = (tgt : Int)) (hp : pc + 3 = pc') (kt : ¬ P → Go G d mc ms M tgt lv st h K) (kf : P → Go G d mc ms M pc' lv st h K) : Go G d mc ms M pc lv (.int (b2i P) :: st) h K :=
  Go_if_eq hd ht hp (fun z => kt (b2i_eq.mp z)) (fun z => kf (b2i_ne.mp z))
theorem Go_if_neb {P : Prop} [Decidable P] {off : Int} (hd : decode M.2.2.1 pc = .ok (.ifCond .ne off, 3)) (ht : (pc : Int) + off = (tgt : Int)) (hp : pc + 3 = pc') (kt : P → Go G d mc ms M tgt lv st h K) (kf : ¬ P → Go G d mc ms M pc' lv st h K) : Go G d mc ms M pc lv (.int (b2i P) :: st) h K :=
  Go_if_ne hd ht hp (fun z => kt (b2i_ne.mp z)) (fun z => kf (b2i_eq.mp z))
theorem Go_getRs {i t k j : Nat} (hd : decode M.2.2.1 pc = .ok (.getfield idx, 3)) (hp : pc + 3 = pc') (hl : Cond.fieldLink M.1 idx (clT t k).1 (clT t k).2.1 (clT t k).2.2.1 ∈ Tg) (ht : t < 13) (hk : k < nF t) (hr : isR t k = true) (hi : 64 ≤ i ∧ i < 64 + hN h) (hkd : (ki h i).1 = t) (hj : ri h i k = some j)
    (kk : Go G d mc ms M pc' lv (.ref j :: st) h K) : Go G d mc ms M pc lv (.ref i :: st) h K := by
  refine Go_getR hd hp hl ht hk hr hi hkd ?_
  rw [hj]; exact kk
theorem Go_putRs {i t k j : Nat} (hd : decode M.2.2.1 pc = .ok (.putfield idx, 3)) (hp : pc + 3 = pc') (hl : Cond.fieldLink M.1 idx (clT t k).1 (clT t k).2.1 (clT t k).2.2.1 ∈ Tg) (ht : t < 13) (hk : k < nF t) (hr : isR t k = true) (hi : 64 ≤ i ∧ i < 64 + hN h) (hkd : (ki h i).1 = t) (hfin : (clT t k).2.2.2 = false ∨ ((clT t k).2.2.2 = true ∧ M.2.1.name = "<init>" ∧ (clT t k).1 = M.1)) (hn : ∀ v : Option Nat, narrow (fty t k) (va_rf v) = va_rf v ∧ fits (fty t k) (va_rf v) = true)
    (kk : Go G d mc ms M pc' lv st (wR h i k (some j)) K) : Go G d mc ms M pc lv (.ref j :: .ref i :: st) h K := Go_putR (r := some j) hd hp hl ht hk hr hi hkd hfin hn kk
theorem Go_aaloads {i t j q : Nat} {x : Int32} (hd : decode M.2.2.1 pc = .ok (.aaload, 1)) (hp : pc + 1 = pc') (hi : 64 ≤ i ∧ i < 64 + hN h) (hkd : ki h i = (t, n)) (hj : aTy t = some j) (hx : inR x n) (hq : ri h i x.toNatClampNeg = some q) (kk : Go G d mc ms M pc' lv (.ref q :: st) h K) : Go G d mc ms M pc lv (.int x :: .ref i :: st) h K := by
  refine Go_aaload hd hp hi hkd hj hx ?_
  rw [hq]; exact kk
theorem Go_iaload {i : Nat} {x : Int32} {v : Int32} (hd : decode M.2.2.1 pc = .ok (.iaload, 1)) (hp : pc + 1 = pc') (hi : 64 ≤ i ∧ i < 64 + hN h) (hkd : ki h i = (20, n)) (hx : inR x n) (hv : vi h i x.toNatClampNeg = v) (kk : Go G d mc ms M pc' lv (.int v :: st) h K) : Go G d mc ms M pc lv (.int x :: .ref i :: st) h K := by
  refine Go_ialoadX hd hp hi hkd hx ?_
  rw [hv]; exact kk
theorem Go_baload {i : Nat} {x : Int32} {v : Int32} (hd : decode M.2.2.1 pc = .ok (.baload, 1)) (hp : pc + 1 = pc') (hi : 64 ≤ i ∧ i < 64 + hN h) (hkd : ki h i = (21, n)) (hx : inR x n) (hv : vi h i x.toNatClampNeg = v) (kk : Go G d mc ms M pc' lv (.int v :: st) h K) : Go G d mc ms M pc lv (.int x :: .ref i :: st) h K := by
  refine Go_baloadX hd hp hi hkd hx ?_
  rw [hv]; exact kk
theorem KI_use {r : Option Value} {h' : HS} (hk : KI (fun x h' => Go G d mc ms M pc' lv (.int x :: st) h' K) r h') : Go G d mc ms M pc' lv (r.toList ++ st) h' K := by
  obtain ⟨x, rfl, hk⟩ := hk; exact hk
theorem KL_use {r : Option Value} {h' : HS} (hk : KL (fun x h' => Go G d mc ms M pc' lv (.long x :: st) h' K) r h') : Go G d mc ms M pc' lv (r.toList ++ st) h' K := by
  obtain ⟨x, rfl, hk⟩ := hk; exact hk
theorem KR_use {r : Option Value} {h' : HS} (hk : KR (fun x h' => Go G d mc ms M pc' lv (va_rf x :: st) h' K) r h') : Go G d mc ms M pc' lv (r.toList ++ st) h' K := by
  obtain ⟨x, rfl, hk⟩ := hk; exact hk
theorem KV_use {r : Option Value} {h' : HS} (hk : KV (fun h' => Go G d mc ms M pc' lv st h' K) r h') : Go G d mc ms M pc' lv (r.toList ++ st) h' K := by
  obtain ⟨rfl, hk⟩ := hk; exact hk
theorem Go_callS_i (hd : decode M.2.2.1 pc = .ok (.invokestatic idx, 3)) (hp : pc + 3 = pc') (ho : okS M' n) (hl : Cond.methodLink M.1 idx M'.2.1 ∈ Tg) (hn : As.length = n) (hA : n ≤ M'.2.2.2.1) (hc : cat1 As = true) (hst : As.reverse ++ st = st0) (hlv : As ++ List.replicate (M'.2.2.2.1 - As.length) un = lv0) (h8 : (st.map fun v => v.category).sum ≤ 8) (hdd : d' < d)
    (k : Go G d' 0 0 M' 0 lv0 [] h (KI (fun x h' => Go G d mc ms M pc' lv (.int x :: st) h' K))) : Go G d mc ms M pc lv st0 h K :=
  Go_callS (mc := mc) (ms := ms) hd hp ho hl hn hA hc hst hlv h8 hdd (Nat.le_of_eq (Nat.zero_add _)) (Nat.le_of_eq (Nat.zero_add _)) (Go.post k (fun _ _ hk => KI_use hk))
theorem Go_callV_i {b t : Nat} (hd : decode M.2.2.1 pc = .ok (.invokevirtual idx, 3)) (hp : pc + 3 = pc') (ho : okV M' n) (hl : Cond.methodLink M.1 idx M'.2.1 ∈ Tg) (hkd : (ki h b).1 = t) (hb : 64 ≤ b ∧ b < 64 + hN h) (ht : ∃ T N, vwCl[t]? = some (M'.2.1.cls, T, N)) (hn : As.length = n) (hA : n + 1 ≤ M'.2.2.2.1) (hc : cat1 As = true) (hst : As.reverse ++ .ref b :: st = st0) (hlv : .ref b :: As ++ List.replicate (M'.2.2.2.1 - (As.length + 1)) un = lv0) (h8 : (st.map fun v => v.category).sum ≤ 8) (hdd : d' < d)
    (k : Go G d' 0 0 M' 0 lv0 [] h (KI (fun x h' => Go G d mc ms M pc' lv (.int x :: st) h' K))) : Go G d mc ms M pc lv st0 h K :=
  Go_callV (mc := mc) (ms := ms) hd hp ho hl hkd hb ht hn hA hc hst hlv h8 hdd (Nat.le_of_eq (Nat.zero_add _)) (Nat.le_of_eq (Nat.zero_add _)) (Go.post k (fun _ _ hk => KI_use hk))
theorem Go_callS_iA (hd : decode M.2.2.1 pc = .ok (.invokestatic idx, 3)) (hp : pc + 3 = pc') (ho : okS M' n) (hl : Cond.methodLink M.1 idx M'.2.1 ∈ Tg) (hn : As.length = n) (hA : n ≤ M'.2.2.2.1) (hc : cat1 As = true) (hst : As.reverse ++ st = st0) (hlv : As ++ List.replicate (M'.2.2.2.1 - As.length) un = lv0) (h8 : (st.map fun v => v.category).sum ≤ 8) (hdd : d' < d) (hb1 : mc2 + mc ≤ mcT) (hb2 : ms2 + ms ≤ msT)
    (k : Go G d' mc2 ms2 M' 0 lv0 [] h (KI (fun x h' => Go G d mc ms M pc' lv (.int x :: st) h' K))) : Go G d mcT msT M pc lv st0 h K :=
  Go_callS (mc := mc) (ms := ms) hd hp ho hl hn hA hc hst hlv h8 hdd hb1 hb2 (Go.post k (fun _ _ hk => KI_use hk))
theorem Go_callV_iA {b t : Nat} (hd : decode M.2.2.1 pc = .ok (.invokevirtual idx, 3)) (hp : pc + 3 = pc') (ho : okV M' n) (hl : Cond.methodLink M.1 idx M'.2.1 ∈ Tg) (hkd : (ki h b).1 = t) (hb : 64 ≤ b ∧ b < 64 + hN h) (ht : ∃ T N, vwCl[t]? = some (M'.2.1.cls, T, N)) (hn : As.length = n) (hA : n + 1 ≤ M'.2.2.2.1) (hc : cat1 As = true) (hst : As.reverse ++ .ref b :: st = st0) (hlv : .ref b :: As ++ List.replicate (M'.2.2.2.1 - (As.length + 1)) un = lv0) (h8 : (st.map fun v => v.category).sum ≤ 8) (hdd : d' < d) (hb1 : mc2 + mc ≤ mcT) (hb2 : ms2 + ms ≤ msT)
    (k : Go G d' mc2 ms2 M' 0 lv0 [] h (KI (fun x h' => Go G d mc ms M pc' lv (.int x :: st) h' K))) : Go G d mcT msT M pc lv st0 h K :=
  Go_callV (mc := mc) (ms := ms) hd hp ho hl hkd hb ht hn hA hc hst hlv h8 hdd hb1 hb2 (Go.post k (fun _ _ hk => KI_use hk))
theorem Go_callVS_i {j : Nat} (hd : decode M.2.2.1 pc = .ok (.invokevirtual idx, 3)) (hp : pc + 3 = pc') (ho : okV M' n) (hl : Cond.methodLink M.1 idx M'.2.1 ∈ Tg) (hj : j < 15) (hcl : M'.2.1.cls = "java/lang/String") (hn : As.length = n) (hA : n + 1 ≤ M'.2.2.2.1) (hc : cat1 As = true) (hst : As.reverse ++ .ref (1 + 2 * j) :: st = st0) (hlv : .ref (1 + 2 * j) :: As ++ List.replicate (M'.2.2.2.1 - (As.length + 1)) un = lv0) (h8 : (st.map fun v => v.category).sum ≤ 8) (hdd : d' < d)
    (k : Go G d' 0 0 M' 0 lv0 [] h (KI (fun x h' => Go G d mc ms M pc' lv (.int x :: st) h' K))) : Go G d mc ms M pc lv st0 h K :=
  Go_callVS (mc := mc) (ms := ms) hd hp ho hl hj hcl hn hA hc hst hlv h8 hdd (Nat.le_of_eq (Nat.zero_add _)) (Nat.le_of_eq (Nat.zero_add _)) (Go.post k (fun _ _ hk => KI_use hk))
theorem Go_callS_l (hd : decode M.2.2.1 pc = .ok (.invokestatic idx, 3)) (hp : pc + 3 = pc') (ho : okS M' n) (hl : Cond.methodLink M.1 idx M'.2.1 ∈ Tg) (hn : As.length = n) (hA : n ≤ M'.2.2.2.1) (hc : cat1 As = true) (hst : As.reverse ++ st = st0) (hlv : As ++ List.replicate (M'.2.2.2.1 - As.length) un = lv0) (h8 : (st.map fun v => v.category).sum ≤ 8) (hdd : d' < d)
    (k : Go G d' 0 0 M' 0 lv0 [] h (KL (fun x h' => Go G d mc ms M pc' lv (.long x :: st) h' K))) : Go G d mc ms M pc lv st0 h K :=
  Go_callS (mc := mc) (ms := ms) hd hp ho hl hn hA hc hst hlv h8 hdd (Nat.le_of_eq (Nat.zero_add _)) (Nat.le_of_eq (Nat.zero_add _)) (Go.post k (fun _ _ hk => KL_use hk))
theorem Go_callV_l {b t : Nat} (hd : decode M.2.2.1 pc = .ok (.invokevirtual idx, 3)) (hp : pc + 3 = pc') (ho : okV M' n) (hl : Cond.methodLink M.1 idx M'.2.1 ∈ Tg) (hkd : (ki h b).1 = t) (hb : 64 ≤ b ∧ b < 64 + hN h) (ht : ∃ T N, vwCl[t]? = some (M'.2.1.cls, T, N)) (hn : As.length = n) (hA : n + 1 ≤ M'.2.2.2.1) (hc : cat1 As = true) (hst : As.reverse ++ .ref b :: st = st0) (hlv : .ref b :: As ++ List.replicate (M'.2.2.2.1 - (As.length + 1)) un = lv0) (h8 : (st.map fun v => v.category).sum ≤ 8) (hdd : d' < d)
    (k : Go G d' 0 0 M' 0 lv0 [] h (KL (fun x h' => Go G d mc ms M pc' lv (.long x :: st) h' K))) : Go G d mc ms M pc lv st0 h K :=
  Go_callV (mc := mc) (ms := ms) hd hp ho hl hkd hb ht hn hA hc hst hlv h8 hdd (Nat.le_of_eq (Nat.zero_add _)) (Nat.le_of_eq (Nat.zero_add _)) (Go.post k (fun _ _ hk => KL_use hk))
theorem Go_callS_lA (hd : decode M.2.2.1 pc = .ok (.invokestatic idx, 3)) (hp : pc + 3 = pc') (ho : okS M' n) (hl : Cond.methodLink M.1 idx M'.2.1 ∈ Tg) (hn : As.length = n) (hA : n ≤ M'.2.2.2.1) (hc : cat1 As = true) (hst : As.reverse ++ st = st0) (hlv : As ++ List.replicate (M'.2.2.2.1 - As.length) un = lv0) (h8 : (st.map fun v => v.category).sum ≤ 8) (hdd : d' < d) (hb1 : mc2 + mc ≤ mcT) (hb2 : ms2 + ms ≤ msT)
    (k : Go G d' mc2 ms2 M' 0 lv0 [] h (KL (fun x h' => Go G d mc ms M pc' lv (.long x :: st) h' K))) : Go G d mcT msT M pc lv st0 h K :=
  Go_callS (mc := mc) (ms := ms) hd hp ho hl hn hA hc hst hlv h8 hdd hb1 hb2 (Go.post k (fun _ _ hk => KL_use hk))
theorem Go_callV_lA {b t : Nat} (hd : decode M.2.2.1 pc = .ok (.invokevirtual idx, 3)) (hp : pc + 3 = pc') (ho : okV M' n) (hl : Cond.methodLink M.1 idx M'.2.1 ∈ Tg) (hkd : (ki h b).1 = t) (hb : 64 ≤ b ∧ b < 64 + hN h) (ht : ∃ T N, vwCl[t]? = some (M'.2.1.cls, T, N)) (hn : As.length = n) (hA : n + 1 ≤ M'.2.2.2.1) (hc : cat1 As = true) (hst : As.reverse ++ .ref b :: st = st0) (hlv : .ref b :: As ++ List.replicate (M'.2.2.2.1 - (As.length + 1)) un = lv0) (h8 : (st.map fun v => v.category).sum ≤ 8) (hdd : d' < d) (hb1 : mc2 + mc ≤ mcT) (hb2 : ms2 + ms ≤ msT)
    (k : Go G d' mc2 ms2 M' 0 lv0 [] h (KL (fun x h' => Go G d mc ms M pc' lv (.long x :: st) h' K))) : Go G d mcT msT M pc lv st0 h K :=
  Go_callV (mc := mc) (ms := ms) hd hp ho hl hkd hb ht hn hA hc hst hlv h8 hdd hb1 hb2 (Go.post k (fun _ _ hk => KL_use hk))
theorem Go_callVS_l {j : Nat} (hd : decode M.2.2.1 pc = .ok (.invokevirtual idx, 3)) (hp : pc + 3 = pc') (ho : okV M' n) (hl : Cond.methodLink M.1 idx M'.2.1 ∈ Tg) (hj : j < 15) (hcl : M'.2.1.cls = "java/lang/String") (hn : As.length = n) (hA : n + 1 ≤ M'.2.2.2.1) (hc : cat1 As = true) (hst : As.reverse ++ .ref (1 + 2 * j) :: st = st0) (hlv : .ref (1 + 2 * j) :: As ++ List.replicate (M'.2.2.2.1 - (As.length + 1)) un = lv0) (h8 : (st.map fun v => v.category).sum ≤ 8) (hdd : d' < d)
    (k : Go G d' 0 0 M' 0 lv0 [] h (KL (fun x h' => Go G d mc ms M pc' lv (.long x :: st) h' K))) : Go G d mc ms M pc lv st0 h K :=
  Go_callVS (mc := mc) (ms := ms) hd hp ho hl hj hcl hn hA hc hst hlv h8 hdd (Nat.le_of_eq (Nat.zero_add _)) (Nat.le_of_eq (Nat.zero_add _)) (Go.post k (fun _ _ hk => KL_use hk))
theorem Go_callS_r (hd : decode M.2.2.1 pc = .ok (.invokestatic idx, 3)) (hp : pc + 3 = pc') (ho : okS M' n) (hl : Cond.methodLink M.1 idx M'.2.1 ∈ Tg) (hn : As.length = n) (hA : n ≤ M'.2.2.2.1) (hc : cat1 As = true) (hst : As.reverse ++ st = st0) (hlv : As ++ List.replicate (M'.2.2.2.1 - As.length) un = lv0) (h8 : (st.map fun v => v.category).sum ≤ 8) (hdd : d' < d)
    (k : Go G d' 0 0 M' 0 lv0 [] h (KR (fun x h' => Go G d mc ms M pc' lv (va_rf x :: st) h' K))) : Go G d mc ms M pc lv st0 h K :=
  Go_callS (mc := mc) (ms := ms) hd hp ho hl hn hA hc hst hlv h8 hdd (Nat.le_of_eq (Nat.zero_add _)) (Nat.le_of_eq (Nat.zero_add _)) (Go.post k (fun _ _ hk => KR_use hk))
theorem Go_callV_r {b t : Nat} (hd : decode M.2.2.1 pc = .ok (.invokevirtual idx, 3)) (hp : pc + 3 = pc') (ho : okV M' n) (hl : Cond.methodLink M.1 idx M'.2.1 ∈ Tg) (hkd : (ki h b).1 = t) (hb : 64 ≤ b ∧ b < 64 + hN h) (ht : ∃ T N, vwCl[t]? = some (M'.2.1.cls, T, N)) (hn : As.length = n) (hA : n + 1 ≤ M'.2.2.2.1) (hc : cat1 As = true) (hst : As.reverse ++ .ref b :: st = st0) (hlv : .ref b :: As ++ List.replicate (M'.2.2.2.1 - (As.length + 1)) un = lv0) (h8 : (st.map fun v => v.category).sum ≤ 8) (hdd : d' < d)
    (k : Go G d' 0 0 M' 0 lv0 [] h (KR (fun x h' => Go G d mc ms M pc' lv (va_rf x :: st) h' K))) : Go G d mc ms M pc lv st0 h K :=
  Go_callV (mc := mc) (ms := ms) hd hp ho hl hkd hb ht hn hA hc hst hlv h8 hdd (Nat.le_of_eq (Nat.zero_add _)) (Nat.le_of_eq (Nat.zero_add _)) (Go.post k (fun _ _ hk => KR_use hk))
theorem Go_callS_rA (hd : decode M.2.2.1 pc = .ok (.invokestatic idx, 3)) (hp : pc + 3 = pc') (ho : okS M' n) (hl : Cond.methodLink M.1 idx M'.2.1 ∈ Tg) (hn : As.length = n) (hA : n ≤ M'.2.2.2.1) (hc : cat1 As = true) (hst : As.reverse ++ st = st0) (hlv : As ++ List.replicate (M'.2.2.2.1 - As.length) un = lv0) (h8 : (st.map fun v => v.category).sum ≤ 8) (hdd : d' < d) (hb1 : mc2 + mc ≤ mcT) (hb2 : ms2 + ms ≤ msT)
    (k : Go G d' mc2 ms2 M' 0 lv0 [] h (KR (fun x h' => Go G d mc ms M pc' lv (va_rf x :: st) h' K))) : Go G d mcT msT M pc lv st0 h K :=
  Go_callS (mc := mc) (ms := ms) hd hp ho hl hn hA hc hst hlv h8 hdd hb1 hb2 (Go.post k (fun _ _ hk => KR_use hk))
theorem Go_callV_rA {b t : Nat} (hd : decode M.2.2.1 pc = .ok (.invokevirtual idx, 3)) (hp : pc + 3 = pc') (ho : okV M' n) (hl : Cond.methodLink M.1 idx M'.2.1 ∈ Tg) (hkd : (ki h b).1 = t) (hb : 64 ≤ b ∧ b < 64 + hN h) (ht : ∃ T N, vwCl[t]? = some (M'.2.1.cls, T, N)) (hn : As.length = n) (hA : n + 1 ≤ M'.2.2.2.1) (hc : cat1 As = true) (hst : As.reverse ++ .ref b :: st = st0) (hlv : .ref b :: As ++ List.replicate (M'.2.2.2.1 - (As.length + 1)) un = lv0) (h8 : (st.map fun v => v.category).sum ≤ 8) (hdd : d' < d) (hb1 : mc2 + mc ≤ mcT) (hb2 : ms2 + ms ≤ msT)
    (k : Go G d' mc2 ms2 M' 0 lv0 [] h (KR (fun x h' => Go G d mc ms M pc' lv (va_rf x :: st) h' K))) : Go G d mcT msT M pc lv st0 h K :=
  Go_callV (mc := mc) (ms := ms) hd hp ho hl hkd hb ht hn hA hc hst hlv h8 hdd hb1 hb2 (Go.post k (fun _ _ hk => KR_use hk))
theorem Go_callVS_r {j : Nat} (hd : decode M.2.2.1 pc = .ok (.invokevirtual idx, 3)) (hp : pc + 3 = pc') (ho : okV M' n) (hl : Cond.methodLink M.1 idx M'.2.1 ∈ Tg) (hj : j < 15) (hcl : M'.2.1.cls = "java/lang/String") (hn : As.length = n) (hA : n + 1 ≤ M'.2.2.2.1) (hc : cat1 As = true) (hst : As.reverse ++ .ref (1 + 2 * j) :: st = st0) (hlv : .ref (1 + 2 * j) :: As ++ List.replicate (M'.2.2.2.1 - (As.length + 1)) un = lv0) (h8 : (st.map fun v => v.category).sum ≤ 8) (hdd : d' < d)
    (k : Go G d' 0 0 M' 0 lv0 [] h (KR (fun x h' => Go G d mc ms M pc' lv (va_rf x :: st) h' K))) : Go G d mc ms M pc lv st0 h K :=
  Go_callVS (mc := mc) (ms := ms) hd hp ho hl hj hcl hn hA hc hst hlv h8 hdd (Nat.le_of_eq (Nat.zero_add _)) (Nat.le_of_eq (Nat.zero_add _)) (Go.post k (fun _ _ hk => KR_use hk))
theorem Go_callS_v (hd : decode M.2.2.1 pc = .ok (.invokestatic idx, 3)) (hp : pc + 3 = pc') (ho : okS M' n) (hl : Cond.methodLink M.1 idx M'.2.1 ∈ Tg) (hn : As.length = n) (hA : n ≤ M'.2.2.2.1) (hc : cat1 As = true) (hst : As.reverse ++ st = st0) (hlv : As ++ List.replicate (M'.2.2.2.1 - As.length) un = lv0) (h8 : (st.map fun v => v.category).sum ≤ 8) (hdd : d' < d)
    (k : Go G d' 0 0 M' 0 lv0 [] h (KV (fun h' => Go G d mc ms M pc' lv st h' K))) : Go G d mc ms M pc lv st0 h K :=
  Go_callS (mc := mc) (ms := ms) hd hp ho hl hn hA hc hst hlv h8 hdd (Nat.le_of_eq (Nat.zero_add _)) (Nat.le_of_eq (Nat.zero_add _)) (Go.post k (fun _ _ hk => KV_use hk))
theorem Go_callV_v {b t : Nat} (hd : decode M.2.2.1 pc = .ok (.invokevirtual idx, 3)) (hp : pc + 3 = pc') (ho : okV M' n) (hl : Cond.methodLink M.1 idx M'.2.1 ∈ Tg) (hkd : (ki h b).1 = t) (hb : 64 ≤ b ∧ b < 64 + hN h) (ht : ∃ T N, vwCl[t]? = some (M'.2.1.cls, T, N)) (hn : As.length = n) (hA : n + 1 ≤ M'.2.2.2.1) (hc : cat1 As = true) (hst : As.reverse ++ .ref b :: st = st0) (hlv : .ref b :: As ++ List.replicate (M'.2.2.2.1 - (As.length + 1)) un = lv0) (h8 : (st.map fun v => v.category).sum ≤ 8) (hdd : d' < d)
    (k : Go G d' 0 0 M' 0 lv0 [] h (KV (fun h' => Go G d mc ms M pc' lv st h' K))) : Go G d mc ms M pc lv st0 h K :=
  Go_callV (mc := mc) (ms := ms) hd hp ho hl hkd hb ht hn hA hc hst hlv h8 hdd (Nat.le_of_eq (Nat.zero_add _)) (Nat.le_of_eq (Nat.zero_add _)) (Go.post k (fun _ _ hk => KV_use hk))
theorem Go_callS_vA (hd : decode M.2.2.1 pc = .ok (.invokestatic idx, 3)) (hp : pc + 3 = pc') (ho : okS M' n) (hl : Cond.methodLink M.1 idx M'.2.1 ∈ Tg) (hn : As.length = n) (hA : n ≤ M'.2.2.2.1) (hc : cat1 As = true) (hst : As.reverse ++ st = st0) (hlv : As ++ List.replicate (M'.2.2.2.1 - As.length) un = lv0) (h8 : (st.map fun v => v.category).sum ≤ 8) (hdd : d' < d) (hb1 : mc2 + mc ≤ mcT) (hb2 : ms2 + ms ≤ msT)
    (k : Go G d' mc2 ms2 M' 0 lv0 [] h (KV (fun h' => Go G d mc ms M pc' lv st h' K))) : Go G d mcT msT M pc lv st0 h K :=
  Go_callS (mc := mc) (ms := ms) hd hp ho hl hn hA hc hst hlv h8 hdd hb1 hb2 (Go.post k (fun _ _ hk => KV_use hk))
theorem Go_callV_vA {b t : Nat} (hd : decode M.2.2.1 pc = .ok (.invokevirtual idx, 3)) (hp : pc + 3 = pc') (ho : okV M' n) (hl : Cond.methodLink M.1 idx M'.2.1 ∈ Tg) (hkd : (ki h b).1 = t) (hb : 64 ≤ b ∧ b < 64 + hN h) (ht : ∃ T N, vwCl[t]? = some (M'.2.1.cls, T, N)) (hn : As.length = n) (hA : n + 1 ≤ M'.2.2.2.1) (hc : cat1 As = true) (hst : As.reverse ++ .ref b :: st = st0) (hlv : .ref b :: As ++ List.replicate (M'.2.2.2.1 - (As.length + 1)) un = lv0) (h8 : (st.map fun v => v.category).sum ≤ 8) (hdd : d' < d) (hb1 : mc2 + mc ≤ mcT) (hb2 : ms2 + ms ≤ msT)
    (k : Go G d' mc2 ms2 M' 0 lv0 [] h (KV (fun h' => Go G d mc ms M pc' lv st h' K))) : Go G d mcT msT M pc lv st0 h K :=
  Go_callV (mc := mc) (ms := ms) hd hp ho hl hkd hb ht hn hA hc hst hlv h8 hdd hb1 hb2 (Go.post k (fun _ _ hk => KV_use hk))
theorem Go_callI_v {b : Nat} (hd : decode M.2.2.1 pc = .ok (.invokespecial idx, 3)) (hp : pc + 3 = pc') (ho : okI M' n) (hl : Cond.methodLink M.1 idx M'.2.1 ∈ Tg) (hn : As.length = n) (hA : n + 1 ≤ M'.2.2.2.1) (hc : cat1 As = true) (hst : As.reverse ++ .ref b :: st = st0) (hlv : .ref b :: As ++ List.replicate (M'.2.2.2.1 - (As.length + 1)) un = lv0) (h8 : (st.map fun v => v.category).sum ≤ 8) (hdd : d' < d) (hb1 : mc2 + mc ≤ mcT) (hb2 : ms2 + ms ≤ msT)
    (k : Go G d' mc2 ms2 M' 0 lv0 [] h (KV (fun h' => Go G d mc ms M pc' lv st h' K))) : Go G d mcT msT M pc lv st0 h K :=
  Go_callI (mc := mc) (ms := ms) hd hp ho hl hn hA hc hst hlv h8 hdd hb1 hb2 (Go.post k (fun _ _ hk => KV_use hk))
theorem Go_callIN_v {b : Nat} (hd : decode M.2.2.1 pc = .ok (.invokespecial idx, 3)) (hp : pc + 3 = pc') (ho : okI M' n) {host : String} (hl : ∀ U H, Ex G U H → va_Nw (.methodLinkNest M.1 idx M'.2.1 host) U) (hn : As.length = n) (hA : n + 1 ≤ M'.2.2.2.1) (hc : cat1 As = true) (hst : As.reverse ++ .ref b :: st = st0) (hlv : .ref b :: As ++ List.replicate (M'.2.2.2.1 - (As.length + 1)) un = lv0) (h8 : (st.map fun v => v.category).sum ≤ 8) (hdd : d' < d) (hb1 : mc2 + mc ≤ mcT) (hb2 : ms2 + ms ≤ msT)
    (k : Go G d' mc2 ms2 M' 0 lv0 [] h (KV (fun h' => Go G d mc ms M pc' lv st h' K))) : Go G d mcT msT M pc lv st0 h K :=
  Go_callIN (mc := mc) (ms := ms) hd hp ho hl hn hA hc hst hlv h8 hdd hb1 hb2 (Go.post k (fun _ _ hk => KV_use hk))
theorem Go_callSN_i {host : String} (hd : decode M.2.2.1 pc = .ok (.invokestatic idx, 3)) (hp : pc + 3 = pc') (ho : okS M' n) (hl : ∀ U H, Ex G U H → va_Nw (.methodLinkNest M.1 idx M'.2.1 host) U) (hn : As.length = n) (hA : n ≤ M'.2.2.2.1) (hc : cat1 As = true) (hst : As.reverse ++ st = st0) (hlv : As ++ List.replicate (M'.2.2.2.1 - As.length) un = lv0) (h8 : (st.map fun v => v.category).sum ≤ 8) (hdd : d' < d)
    (k : Go G d' 0 0 M' 0 lv0 [] h (KI (fun x h' => Go G d mc ms M pc' lv (.int x :: st) h' K))) : Go G d mc ms M pc lv st0 h K :=
  Go_callSN (mc := mc) (ms := ms) hd hp ho hl hn hA hc hst hlv h8 hdd (Nat.le_of_eq (Nat.zero_add _)) (Nat.le_of_eq (Nat.zero_add _)) (Go.post k (fun _ _ hk => KI_use hk))
end GoE
