/-! contracts out of Go, and calls -/
def okB (M : MI) (n : Nat) : Prop := Cond.code M.2.1 M.2.2.1 M.2.2.2.1 M.2.2.2.2 ∈ Tg ∧ Cond.initialized M.2.1.cls ∈ Tg ∧ plainFor M.2.1 = true ∧ (M.2.1.cls ≠ "java/lang/invoke/MethodHandle" ∧ M.2.1.cls ≠ "java/lang/invoke/VarHandle" ∧ (parseMethodDescriptor M.2.1.desc).map (fun d => d.parameters.length) = some n) ∧ M.1 = M.2.1.cls ∧ M.2.2.2.1 ≤ 22
def okS (M : MI) (n : Nat) : Prop := okB M n ∧ Cond.static M.2.1 ∈ Tg
def okV (M : MI) (n : Nat) : Prop := okB M n ∧ Cond.instanceMethod M.2.1 ∈ Tg ∧ Cond.selects M.2.1.cls M.2.1 M.2.1 ∈ Tg
def okI (M : MI) (n : Nat) : Prop := okB M n ∧ Cond.instanceMethod M.2.1 ∈ Tg ∧ M.2.1.name = "<init>" ∧ M.2.2.2.2 = none
theorem gin {M : MI} (h : Cond.code M.2.1 M.2.2.1 M.2.2.2.1 M.2.2.2.2 ∈ Tg) : GoodIn Tg (wsM M) := by
  intro w hw
  have h1 : w ∈ Tg := by
    rcases List.mem_cons.mp hw with e | e
    · rw [e]; exact h
    · exact e
  exact ⟨h1, good_of_word (List.mem_filter.mp h1).2⟩
def PcM (G : GC) (h : HS) (As : List Value) : Array Value → State → Prop := va_Pc (As.map (cv G)) (fun U => U.heap.size = gb G + hN h ∧ va_P (gD G) vwCl (cw G h) U.heap ∧ va_K (gD G) vwCl (tyL G) U ∧ Ex G U U.heap)
def QK (G : GC) (K : Option Value → HS → Prop) : Array Value → State → Outcome → State → Prop := fun _ st o t => ∃ (r : Option Value) (h' : HS), o = .returned (r.map (cv G)) ∧ K r h' ∧ t.heap.size = gb G + hN h' ∧ va_P (gD G) vwCl (cw G h') t.heap ∧ va_F (gA G) st t
theorem PcM.blind (G : GC) (h : HS) (As : List Value) : FrameBlind (PcM G h As) := by
  intro a U g mk q
  obtain ⟨q0, q1, qP, qK, qE⟩ := q
  exact ⟨q0, q1, qP, va_K.moved (u := U) (U := U.calling g mk a) (Vm.Alike.refl U.vm) qK, Ex.blind (U := U) rfl qE⟩
theorem PcM.now {G : GC} {M : MI} {h : HS} {As : List Value} {p : Program} {s : State} {m : MethodId} {args : Array Value} {meth : Method} {c : Code} {H : Heap} {locs : List Loc} (F : Fr G M p s m args meth c) (S : Sr G h s H locs) {U : State} (hU : U.heap = H) (hW : s.WarmedH U.vm) : PcM G h As (As.map (cv G)).toArray U := by
  refine ⟨rfl, by rw [hU]; exact S.1, by rw [hU]; exact S.2.1, va_K.moved hW.alike F.2.2.2.2.2.2.2.2.1, ?_⟩
  rw [hU]
  exact Ex.warm hW (Ex.kept F.2.2.2.2.2.2.2.2.2.1 (fun a h1 h2 => S.2.2.2.1 a h1 h2))
theorem lg_sl1 : ∀ (vs : List Value), (∀ v ∈ vs, v.category = 1) → lg_sl vs = vs.map Slot.val
  | [], _ => rfl
  | v :: vs, h => by
    have h1 : ¬ v.category = 2 := by rw [h v List.mem_cons_self]; decide
    have ih := lg_sl1 vs (fun w hw => h w (List.mem_cons_of_mem _ hw))
    unfold lg_sl at ih ⊢
    rw [List.flatMap_cons, if_neg h1, ih]
    rfl
def cat1 (l : List Value) : Bool := l.all (fun v => v.category == 1)
theorem cat1_of {l : List Value} (h : cat1 l = true) : ∀ v ∈ l, v.category = 1 := fun v hv => by
  have := List.all_eq_true.mp h v hv
  simpa using this
theorem Lr.entry {G : GC} {M : MI} {As : List Value} (hA : As.length ≤ M.2.2.2.1) (hc : cat1 As = true) : Lr G M ((lg_sl (As.map (cv G)) ++ List.replicate (M.2.2.2.1 - (lg_sl (As.map (cv G))).length) Slot.unset).toArray) (As ++ List.replicate (M.2.2.2.1 - As.length) un) := by
  have hc' : ∀ v ∈ As.map (cv G), v.category = 1 := fun v hv => by
    obtain ⟨w, hw, rfl⟩ := List.mem_map.mp hv
    rw [cv_cat]; exact cat1_of hc w hw
  have e := lg_sl1 _ hc'
  have hl := lv_entry (As.map (cv G)) (n := M.2.2.2.1) (by rw [e]; simp; exact hA)
  refine ⟨hl.1, hl.2.1, by simp; omega, fun i v hi hu => ?_⟩
  have hlt : i < As.length := by
    rcases Nat.lt_or_ge i As.length with q | q
    · exact q
    · rw [List.getElem?_append_right q, List.getElem?_replicate] at hi
      split at hi
      · cases hi; exact absurd rfl hu
      · cases hi
  rw [List.getElem?_append_left hlt] at hi
  rw [e]
  simp [hlt, hi, List.getElem?_append_left]
  rw [List.getElem?_eq_getElem hlt] at hi
  rw [Option.some.inj hi]
theorem Go.met {G : GC} {d mc ms n : Nat} {M : MI} {As : List Value} {h : HS} {K : Option Value → HS → Prop} (hB : okB M n) (hA : As.length ≤ M.2.2.2.1) (hc : cat1 As = true) (k : Go G d mc ms M 0 (As ++ List.replicate (M.2.2.2.1 - As.length) un) [] h K) :
    Met (gl G) M.2.1 (wsM M) (rmD d mc ms) (PcM G h As) (QK G K) mc ms (gA G) := by
  refine va_MetF (cc := M.2.2.1) (maxL := M.2.2.2.1) (ret := M.2.2.2.2) hB.2.2.1 rfl ?_
  intro p e s m args below meth c s₁ B hml hv
  obtain ⟨rfl, hsz, hP, hK, hE⟩ := hv
  have hts := atoms_spec (ws := wsM M) B.pre
  have hown : s.vm.findClass M.1 = some m.cls := by rw [hB.2.2.2.2.1]; exact findClass_of_methodNamed B.named
  have hlocks := B.notSynchronized
  have hF : Fr G M p s m (As.map (cv G)).toArray meth c := ⟨B.exec, B.bytes, hml, hown, fun w hw => hts w (List.mem_cons_of_mem _ hw), B.returns, hlocks, (name_of_methodNamed B.named B.method).1, hK, hE, by rw [hsz]; exact Nat.le_add_right _ _⟩
  have hS : Sr G h s s.heap [] := ⟨hsz, hP, va_S.rf⟩
  rw [lg_entry_eq]
  refine k p e s m _ below meth c (headSpec (wsM M) (rmD d mc ms)).room s.heap [] 0 0 (MQ below (QK G K) (As.map (cv G)).toArray s mc ms (gA G)) _ hF hS (Lr.entry hA hc) (Nat.le_refl _) (Nat.le_refl _) (Nat.le_of_eq (Nat.zero_add _)) (Nat.le_of_eq (Nat.zero_add _)) ?_
  intro r h' pc' H' locs' cells' slots' ls' he hk hS' h1 h2
  refine W.widen (k := mc) (n := ms) (by omega) (by omega) ?_
  have hq : ∀ t : State, t.heap = H' → s.WarmedH t.vm → QK G K (As.map (cv G)).toArray s (.returned (r.map (cv G))) t := fun t ht _ => ⟨r, h', rfl, hk, by rw [ht]; exact hS'.1, by rw [ht]; exact hS'.2.1, va_S.F hS'.2.2 ht⟩
  have hf : ∀ q ∈ locs', gA G q.base := hS'.2.2.2.2
  rcases he with ⟨v, ty, rfl, hr, hn, hd⟩ | ⟨v, rfl, hr, hd⟩ | ⟨v, C, rfl, hr, hd⟩ | ⟨rfl, hr, hd⟩
  · exact W.zret B.exec B.bytes (hF.2.2.2.2.2.1.trans hr) hn hq hf hd
  · exact W.lret B.exec B.bytes (hF.2.2.2.2.2.1.trans hr) hq hf hd
  · have hv : cv G (va_rf v) = .null ∨ ∃ a, cv G (va_rf v) = .ref a := by
      rw [cv_rf]; exact va_rf_or _
    exact W.aret B.exec B.bytes (hF.2.2.2.2.2.1.trans hr) (Or.inl ⟨C, rfl⟩) hv hq hf hd
  · exact W.vret B.exec B.bytes (hF.2.2.2.2.2.1.trans hr) hq hf hd
theorem Go.ofRun {G : GC} {d mc ms mc2 ms2 mcT msT : Nat} {M : MI} {pc pc' : Nat} {lv st st0 : List Value} {h : HS} {K K' : Option Value → HS → Prop} {a : Array Value} (hp : pc + 3 = pc') (hb1 : mc2 + mc ≤ mcT) (hb2 : ms2 + ms ≤ msT)
    (hr : ∀ (p : Program) (e : Env) (s : State) (m : MethodId) (args : Array Value) (below : List Frame) (meth : Method) (c : Code) (R : Room) (H : Heap) (locs : List Loc) (cells slots : Nat) (ls : Array Slot), Fr G M p s m args meth c → Sr G h s H locs → Lr G M ls lv → d ≤ R.frames → 41 * d ≤ R.locals → cells + mc2 ≤ R.cells → slots + ms2 ≤ R.slots →
      va_Run p (gl G) e R s m args below meth c H locs cells slots mc2 ms2 (F0 m pc ls (st0.map (cv G))) (st.map (cv G)) (QK G K' a) (gA G))
    (k : ∀ r h', K' r h' → Go G d mc ms M pc' lv (r.toList ++ st) h' K) : Go G d mcT msT M pc lv st0 h K := by
  subst hp
  intro p e s m args below meth c R H locs cells slots Q ls f1 f2 f3 a1 a2 a3 a4 q T hT X
  obtain ⟨v, st₀, t, T', L, h0, X', hL, e1, e2, ⟨r, h', hv, hk, hz, hP, hFr⟩, stp⟩ := hr p e s m args below meth c R H locs cells slots ls f1 f2 f3 a1 a2 (by omega) (by omega) T hT X
  have hv' : v = r.map (cv G) := by cases hv; rfl
  subst hv'
  have hS' : Sr G h' s T'.heap (locs ++ L) := by
    rw [e1]
    refine ⟨hz, hP, ?_, ?_, ?_⟩
    · have z1 : H.size ≤ t.heap.size := by rw [← h0]; exact hFr.1
      exact Nat.le_trans f2.2.2.1 z1
    · intro x h1 h2
      have h3 : x < st₀.heap.size := by rw [h0]; exact Nat.lt_of_lt_of_le h1 f2.2.2.1
      rw [hFr.2 x h3 h2, h0]
      exact f2.2.2.2.1 x h1 h2
    · intro x hx
      rcases List.mem_append.mp hx with z | z
      · exact f2.2.2.2.2 x z
      · exact hL x z
  obtain ⟨t2, b1, b2⟩ := k r h' hk p e s m args below meth c R T'.heap (locs ++ L) (cells + mc2) (slots + ms2) Q ls f1 hS' f3 a1 a2 (by omega) (by omega)
    (fun r2 h2 pc2 H2 locs2 cells2 slots2 ls2 e1 e2 e3 e4 e5 => q r2 h2 pc2 H2 locs2 cells2 slots2 ls2 e1 e2 e3 (by omega) (by omega)) T' rfl X'
  refine ⟨t2, stp t2 ?_, b2⟩
  cases r <;> exact b1
section GoC
variable {G : GC} {d d' mc ms mc2 ms2 mcT msT n idx : Nat} {M M' : MI} {pc pc' : Nat} {lv lv0 st st0 As : List Value} {h : HS} {K : Option Value → HS → Prop}
theorem Go_callS (hd : decode M.2.2.1 pc = .ok (.invokestatic idx, 3)) (hp : pc + 3 = pc') (ho : okS M' n) (hl : Cond.methodLink M.1 idx M'.2.1 ∈ Tg) (hn : As.length = n) (hA : n ≤ M'.2.2.2.1) (hc : cat1 As = true) (hst : As.reverse ++ st = st0) (hlv : As ++ List.replicate (M'.2.2.2.1 - As.length) un = lv0) (h8 : (st.map fun v => v.category).sum ≤ 8) (hdd : d' < d) (hb1 : mc2 + mc ≤ mcT) (hb2 : ms2 + ms ≤ msT)
    (k : Go G d' mc2 ms2 M' 0 lv0 [] h (fun r h' => Go G d mc ms M pc' lv (r.toList ++ st) h' K)) : Go G d mcT msT M pc lv st0 h K := by
  subst hlv; subst hst; subst hn
  refine Go.ofRun (a := (As.map (cv G)).toArray) (K' := fun r h' => Go G d mc ms M pc' lv (r.toList ++ st) h' K) hp hb1 hb2 ?_ (fun r h' hk => hk)
  intro p e s m args below meth c R H locs cells slots ls f1 f2 f3 a1 a2 a3 a4
  have hM := Go.met (G := G) ho.1 hA hc k
  have hT := f1.2.2.2.2.1
  refine va_runS (As := As.map (cv G)) ⟨f1.1, f1.2.1, f1.2.2.1, f1.2.2.2.1, hT⟩ hM ⟨callB_of As.length hT (gin ho.1.1) rfl rfl rfl (hT _ ho.1.2.1) (hT _ hl) ho.1.2.2.2.1 ⟨by show d' + 1 ≤ R.frames; omega, by have := ho.1.2.2.2.2.2; show 8 + (_ + 11) + 41 * d' ≤ R.locals; omega⟩, hT _ ho.2⟩ ⟨PcM.blind G h As, fun U hU hW => PcM.now f1 f2 hU hW⟩ rfl (by simp) f3.1 (by simp) ?_ hd ⟨a3, a4⟩
  exact lv_room (by rw [cv_cats]; exact h8)
theorem Go_callSN {host : String} (hd : decode M.2.2.1 pc = .ok (.invokestatic idx, 3)) (hp : pc + 3 = pc') (ho : okS M' n) (hl : ∀ U H, Ex G U H → va_Nw (.methodLinkNest M.1 idx M'.2.1 host) U) (hn : As.length = n) (hA : n ≤ M'.2.2.2.1) (hc : cat1 As = true) (hst : As.reverse ++ st = st0) (hlv : As ++ List.replicate (M'.2.2.2.1 - As.length) un = lv0) (h8 : (st.map fun v => v.category).sum ≤ 8) (hdd : d' < d) (hb1 : mc2 + mc ≤ mcT) (hb2 : ms2 + ms ≤ msT)
    (k : Go G d' mc2 ms2 M' 0 lv0 [] h (fun r h' => Go G d mc ms M pc' lv (r.toList ++ st) h' K)) : Go G d mcT msT M pc lv st0 h K := by
  subst hlv; subst hst; subst hn
  refine Go.ofRun (a := (As.map (cv G)).toArray) (K' := fun r h' => Go G d mc ms M pc' lv (r.toList ++ st) h' K) hp hb1 hb2 ?_ (fun r h' hk => hk)
  intro p e s m args below meth c R H locs cells slots ls f1 f2 f3 a1 a2 a3 a4
  have hM := Go.met (G := G) ho.1 hA hc k
  have hT := f1.2.2.2.2.1
  refine va_runSN (As := As.map (cv G)) ⟨f1.1, f1.2.1, f1.2.2.1, f1.2.2.2.1, hT⟩ hM ⟨va_cnB As.length hT (gin ho.1.1) rfl rfl rfl (hl _ _ f1.2.2.2.2.2.2.2.2.2.1) (hT _ ho.1.2.1) ho.1.2.2.2.1 ⟨by show d' + 1 ≤ R.frames; omega, by have := ho.1.2.2.2.2.2; show 8 + (_ + 11) + 41 * d' ≤ R.locals; omega⟩, hT _ ho.2, trivial⟩ ⟨PcM.blind G h As, fun U hU hW => PcM.now f1 f2 hU hW⟩ rfl (by simp) f3.1 (by simp) ?_ hd ⟨a3, a4⟩
  exact lv_room (by rw [cv_cats]; exact h8)
theorem Go_callI {b : Nat} (hd : decode M.2.2.1 pc = .ok (.invokespecial idx, 3)) (hp : pc + 3 = pc') (ho : okI M' n) (hl : Cond.methodLink M.1 idx M'.2.1 ∈ Tg) (hn : As.length = n) (hA : n + 1 ≤ M'.2.2.2.1) (hc : cat1 As = true) (hst : As.reverse ++ .ref b :: st = st0) (hlv : .ref b :: As ++ List.replicate (M'.2.2.2.1 - (As.length + 1)) un = lv0) (h8 : (st.map fun v => v.category).sum ≤ 8) (hdd : d' < d) (hb1 : mc2 + mc ≤ mcT) (hb2 : ms2 + ms ≤ msT)
    (k : Go G d' mc2 ms2 M' 0 lv0 [] h (fun r h' => Go G d mc ms M pc' lv (r.toList ++ st) h' K)) : Go G d mcT msT M pc lv st0 h K := by
  subst hlv; subst hst; subst hn
  refine Go.ofRun (a := ((Value.ref b :: As).map (cv G)).toArray) (K' := fun r h' => Go G d mc ms M pc' lv (r.toList ++ st) h' K) hp hb1 hb2 ?_ (fun r h' hk => hk)
  intro p e s m args below meth c R H locs cells slots ls f1 f2 f3 a1 a2 a3 a4
  have hM := Go.met (G := G) (As := .ref b :: As) ho.1 hA (by show (1 == 1 && cat1 As) = true; rw [hc]; rfl) k
  have hT := f1.2.2.2.2.1
  have hret : M'.2.2.2.2 = none := ho.2.2.2
  refine va_runI (n := As.length) (As := As.map (cv G)) (b := ad G b) (maxL := M'.2.2.2.1) (bytes := M'.2.2.1) ⟨f1.1, f1.2.1, f1.2.2.1, f1.2.2.2.1, hT⟩ hM ⟨?_, ho.2.2.1, hT _ ho.2.1⟩ ⟨PcM.blind G h (.ref b :: As), fun U hU hW => PcM.now (As := .ref b :: As) f1 f2 hU hW⟩ rfl (by simp) f3.1 (by simp [cv]) ?_ hd ⟨a3, a4⟩
  · have := callB_of (R := R) (own := M.1) (index := idx) (rm := rmD d' mc2 ms2) (mc := mc2) (ms := ms2) As.length hT (gin ho.1.1) rfl rfl rfl (hT _ ho.1.2.1) (hT _ hl) ho.1.2.2.2.1 ⟨by show d' + 1 ≤ R.frames; omega, by have := ho.1.2.2.2.2.2; show 8 + (_ + 11) + 41 * d' ≤ R.locals; omega⟩
    rw [hret] at this
    exact this
  · exact lv_room (by rw [cv_cats]; exact h8)
theorem Go_callIN {b : Nat} {host : String} (hd : decode M.2.2.1 pc = .ok (.invokespecial idx, 3)) (hp : pc + 3 = pc') (ho : okI M' n) (hl : ∀ U H, Ex G U H → va_Nw (.methodLinkNest M.1 idx M'.2.1 host) U) (hn : As.length = n) (hA : n + 1 ≤ M'.2.2.2.1) (hc : cat1 As = true) (hst : As.reverse ++ .ref b :: st = st0) (hlv : .ref b :: As ++ List.replicate (M'.2.2.2.1 - (As.length + 1)) un = lv0) (h8 : (st.map fun v => v.category).sum ≤ 8) (hdd : d' < d) (hb1 : mc2 + mc ≤ mcT) (hb2 : ms2 + ms ≤ msT)
    (k : Go G d' mc2 ms2 M' 0 lv0 [] h (fun r h' => Go G d mc ms M pc' lv (r.toList ++ st) h' K)) : Go G d mcT msT M pc lv st0 h K := by
  subst hlv; subst hst; subst hn
  refine Go.ofRun (a := ((Value.ref b :: As).map (cv G)).toArray) (K' := fun r h' => Go G d mc ms M pc' lv (r.toList ++ st) h' K) hp hb1 hb2 ?_ (fun r h' hk => hk)
  intro p e s m args below meth c R H locs cells slots ls f1 f2 f3 a1 a2 a3 a4
  have hM := Go.met (G := G) (As := .ref b :: As) ho.1 hA (by show (1 == 1 && cat1 As) = true; rw [hc]; rfl) k
  have hT := f1.2.2.2.2.1
  have hret : M'.2.2.2.2 = none := ho.2.2.2
  refine va_runIN (n := As.length) (As := As.map (cv G)) (b := ad G b) (maxL := M'.2.2.2.1) (bytes := M'.2.2.1) (host := host) ⟨f1.1, f1.2.1, f1.2.2.1, f1.2.2.2.1, hT⟩ hM ⟨?_, ho.2.2.1, hT _ ho.2.1⟩ ⟨PcM.blind G h (.ref b :: As), fun U hU hW => PcM.now (As := .ref b :: As) f1 f2 hU hW⟩ rfl (by simp) f3.1 (by simp [cv]) ?_ hd ⟨a3, a4⟩
  · have := va_cnB (R := R) (own := M.1) (index := idx) (host := host) (rm := rmD d' mc2 ms2) (mc := mc2) (ms := ms2) As.length hT (gin ho.1.1) rfl rfl rfl (hl _ _ f1.2.2.2.2.2.2.2.2.2.1) (hT _ ho.1.2.1) ho.1.2.2.2.1 ⟨by show d' + 1 ≤ R.frames; omega, by have := ho.1.2.2.2.2.2; show 8 + (_ + 11) + 41 * d' ≤ R.locals; omega⟩
    rw [hret] at this
    exact this
  · exact lv_room (by rw [cv_cats]; exact h8)
theorem Go_objInit {b : Nat} (hd : decode M.2.2.1 pc = .ok (.invokespecial idx, 3)) (hp : pc + 3 = pc') (hl : Cond.methodLink M.1 idx Lib.objectInit ∈ Tg) (hi : Cond.instanceMethod Lib.objectInit ∈ Tg) (hcd : Cond.code Lib.objectInit ⟨#[0xb1]⟩ 1 none ∈ Tg) (h8 : (st.map fun v => v.category).sum ≤ 8) (hdd : 0 < d) (k : Go G d mc ms M pc' lv st h K) : Go G d mc ms M pc lv (.ref b :: st) h K := by
  subst hp
  intro p e s m args below meth c R H locs cells slots Q ls f1 f2 f3 a1 a2 a3 a4 q
  have hT := f1.2.2.2.2.1
  refine W.objInit (a := ad G b) (rest := st.map (cv G)) f1.1 f1.2.1 f1.2.2.2.1 (hT _ hl) (hT _ hi) (hT _ hcd) rfl (f3.1.trans f1.2.2.1.symm) rfl hd (by omega) ?_ (k p e s m args below meth c R H locs cells slots Q ls f1 f2 f3 a1 a2 a3 a4 q)
  have := lv_room (m := m) (pc := pc) (ls := ls) (rest := (Value.ref b :: st).map (cv G)) (st := st.map (cv G)) (by rw [cv_cats]; exact h8)
  have h41 : 41 ≤ R.locals := by omega
  exact Nat.le_trans (Nat.add_le_add_right this 12) (by omega)
theorem Go_callV {b t : Nat} (hd : decode M.2.2.1 pc = .ok (.invokevirtual idx, 3)) (hp : pc + 3 = pc') (ho : okV M' n) (hl : Cond.methodLink M.1 idx M'.2.1 ∈ Tg) (hkd : (ki h b).1 = t) (hb : 64 ≤ b ∧ b < 64 + hN h) (ht : ∃ T N, vwCl[t]? = some (M'.2.1.cls, T, N)) (hn : As.length = n) (hA : n + 1 ≤ M'.2.2.2.1) (hc : cat1 As = true) (hst : As.reverse ++ .ref b :: st = st0) (hlv : .ref b :: As ++ List.replicate (M'.2.2.2.1 - (As.length + 1)) un = lv0) (h8 : (st.map fun v => v.category).sum ≤ 8) (hdd : d' < d) (hb1 : mc2 + mc ≤ mcT) (hb2 : ms2 + ms ≤ msT)
    (k : Go G d' mc2 ms2 M' 0 lv0 [] h (fun r h' => Go G d mc ms M pc' lv (r.toList ++ st) h' K)) : Go G d mcT msT M pc lv st0 h K := by
  subst hlv; subst hst; subst hn
  refine Go.ofRun (a := ((Value.ref b :: As).map (cv G)).toArray) (K' := fun r h' => Go G d mc ms M pc' lv (r.toList ++ st) h' K) hp hb1 hb2 ?_ (fun r h' hk => hk)
  intro p e s m args below meth c R H locs cells slots ls f1 f2 f3 a1 a2 a3 a4
  have hM := Go.met (G := G) (As := .ref b :: As) ho.1 hA (by show (1 == 1 && cat1 As) = true; rw [hc]; rfl) k
  have hT := f1.2.2.2.2.1
  obtain ⟨T, N, ht⟩ := ht
  have ht13 : t < 13 := by
    have := (List.getElem?_eq_some_iff.mp ht).1
    exact this
  have hcell : (cw G h)[b - 64]? = some (ad G b, .inr (t, fsOf G h t b)) := by
    rw [cw_at hb.1 hb.2, cell_obj (t := t) (n := (ki h b).2) (by rw [← hkd]) ht13]
  have hrc := va_recv (ci := t) (q0 := b - 64) f1.2.2.2.2.2.2.2.2.1 f2.2.1 ht hcell
  refine va_runV (As := As.map (cv G)) (b := ad G b) (C := M'.2.1.cls) (maxL := M'.2.2.2.1) (bytes := M'.2.2.1) (ret := M'.2.2.2.2) (n := As.length) ⟨f1.1, f1.2.1, f1.2.2.1, f1.2.2.2.1, hT⟩ hM ⟨?_, hT _ ho.2.1, hT _ ho.2.2⟩ ⟨PcM.blind G h (.ref b :: As), hrc, fun U hU hW => PcM.now (As := .ref b :: As) f1 f2 hU hW⟩ rfl (by simp) f3.1 (by simp [cv]) ?_ hd ⟨a3, a4⟩
  · exact callB_of (R := R) (own := M.1) (index := idx) (rm := rmD d' mc2 ms2) (mc := mc2) (ms := ms2) As.length hT (gin ho.1.1) rfl rfl rfl (hT _ ho.1.2.1) (hT _ hl) ho.1.2.2.2.1 ⟨by show d' + 1 ≤ R.frames; omega, by have := ho.1.2.2.2.2.2; show 8 + (_ + 11) + 41 * d' ≤ R.locals; omega⟩
  · exact lv_room (by rw [cv_cats]; exact h8)
end GoC
