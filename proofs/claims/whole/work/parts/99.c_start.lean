/-! THE CLAIM OUT OF ONE WALK OF THE LAW'S BODY. Your part is whole_start (and what it stands on); all else here is the same for every law, but numbers. -/
def R_law : String := "CellarPenLaw"
def lw_P (b : Addr) (xs : List Int32) (args : Array Value) (s : State) : Prop := args = #[.ref b] ∧ s.IntsAt b xs ∧ xs.length ≤ 3072 ∧ (Jvm.Cond.and given_1 narrow_1).before args s = true
def lw_Q (_ : Array Value) (s : State) (o : Outcome) (t : State) : Prop := o = .returned (some (.int 1)) ∧ Framed s o t [] 600000 7302250
def lw_Z (below : List Frame) (a : Array Value) (s : State) : State → Prop := fun t => ∃ o, t.status = .running ∧ Ended t below o ∧ lw_Q a s o t
/-- the law's own end, with 1 on the stack, nothing written that was there before, its room as the claim has it -/
theorem lw_ret {p : Program} {l : Launch} {e : Env} {s : State} {m : MethodId} {below : List Frame} {meth : Method} {c : Code} {b : Nat} (hx : p.tables.exec = Jvm.exec) (hb : c.code = code) (hr : meth.sig.returnType = ret) (hlocks : meth.locks = false) {pc : Nat} {H : Heap} {ls : Array Slot} (hdg : decode code pc = .ok (.ireturn, 1)) : W p l e room_1 s m #[Value.ref b] below meth c H [] 600000 7302250 (lw_Z below #[Value.ref b] s) (F0 m pc ls [.int 1]) := by
  intro T hT X
  obtain ⟨fs, hret, hrun, hended, hW, hframe⟩ := X.leave (v := some (.int 1)) (hlocks := hlocks) (fun h => by rw [hr] at h; cases h)
  have hmeth' : T.vm.method? m = some meth := X.method'
  refine ⟨T.setFrames fs, ?_, .returned (some (.int 1)), hrun, hended, rfl, ⟨_, rfl⟩, hW, hframe⟩
  jvm_step X.here [X.here.top, hx, hb, hdg, hmeth', hr, ret, narrow_b1]
  (try refine ⟨rfl, ?_⟩); (try refine ⟨rfl, ?_⟩)
  first | (intro acts; rw [hret _ acts rfl rfl rfl]) | rw [hret _ _ rfl rfl rfl]
  exact Steps.refl _
/-- what holds at the law's entry: the machine, the code, the tables' words (any of lw_tbl by 'hts w (by decide +kernel)'), the script of L ints xs at the cell b, what the Statement gives of the start (any of its parts by flat_of_before) -/
def lw_At (p : Program) (s : State) (m : MethodId) (meth : Method) (c : Code) (b L : Nat) (xs : Nat → Int32) : Prop :=
  p.tables.exec = Jvm.exec ∧ c.code = code ∧ meth.sig.returnType = ret ∧ c.maxLocals = 4 ∧ s.vm.findClass R_law = some m.cls ∧ (∀ w ∈ lw_tbl, w.before #[Value.ref b] s = true) ∧ va_X b L xs s s.heap ∧ b < s.heap.size ∧ meth.locks = false ∧ (Jvm.Cond.and given_1 narrow_1).before #[Value.ref b] s = true ∧ meth.name = "law"
theorem arr_of {s : State} {ty : FieldType} {args : Array Value} (h : (Cond.arrayClass ty).before args s = true) : ∃ cA : ClassId, ArrOfT s cA ty ∧ s.vm.findClass ("[" ++ ty.toString) = some cA := by
  obtain ⟨cA, kA, comp, h1, h2, h3⟩ := Cond.arrayClass_spec h
  exact ⟨cA, fun n z => ⟨fun k h => (by cases h), kA, h2, comp, h3⟩, h1⟩
theorem arr_ov {s : State} {C : String} {args : Array Value} (h : (Cond.arrayOver (.object C)).before args s = true) : ∃ cA : ClassId, ArrOfT s cA (.object C) ∧ va_RA s cA (.object C) := by
  obtain ⟨comp, cA, kA, h1, h2, h3, h4, h5⟩ := Cond.arrayOver_spec h
  exact ⟨cA, fun n z => ⟨fun k h => (by cases h), kA, h3, comp, h4⟩, kA, comp, h3, h4, h1, h5⟩
theorem str_of {s : State} {args : Array Value} {A : Nat → Prop} (hA : ∀ a : Nat, a < s.heap.size → ¬ A a) (hf : ∀ w ∈ FL, w.before args s = true) : ∃ ad : Nat → Nat × Nat, ∀ j, j < 15 → (tmS j).eval args s none [] s = some (.ref (ad j).1) ∧ va_O "java/lang/String" (ad j).1 A s s.heap ∧ va_OF "java/lang/String" "value" "[B" (.ref (ad j).2) (ad j).1 A s s.heap ∧ va_OF "java/lang/String" "coder" "B" (.int 0) (ad j).1 A s s.heap ∧ va_T .byte (ad j).2 (strT j).length (fun k => .int ((strT j).getD k 0)) A s s.heap := by
  have h0 : ∀ j : Nat, ∃ q : Nat × Nat, j < 15 → (tmS j).eval args s none [] s = some (.ref q.1) ∧ va_O "java/lang/String" q.1 A s s.heap ∧ va_OF "java/lang/String" "value" "[B" (.ref q.2) q.1 A s s.heap ∧ va_OF "java/lang/String" "coder" "B" (.int 0) q.1 A s s.heap ∧ va_T .byte q.2 (strT j).length (fun k => .int ((strT j).getD k 0)) A s s.heap := by
    intro j
    by_cases hj : j < 15
    · obtain ⟨a, c, cA, kA, q1, q2, q3, q4, q5, q6, -⟩ := Cond.exactly_spec (args := args) (first := s) (o := none) (s := s) (idx := []) (t := tmS j) (cls := "java/lang/String") (hf _ (fw_ex j hj))
      obtain ⟨t, ht, hT⟩ := va_Tof (f := fun k => .int ((strT j).getD k 0)) (A := A) (ln_15 j hj) (hf _ (fw_ar j hj)) (va_eqt (hf _ (fw_le j hj))) (fun k hk => va_eqt (hf _ (fw_el j hj k hk))) hA
      exact ⟨(a, t), fun _ => ⟨q1, ⟨cA, q3, q5, by rw [q6]; exact q2, hA a (Array.getElem?_eq_some_iff.mp q3).1⟩, vk_OFof q1 ht hA, vk_OFof q1 (va_eqt (hf _ (fw_co j hj))) hA, hT⟩⟩
    · exact ⟨(0, 0), fun h => absurd h hj⟩
  obtain ⟨ad, had⟩ := Classical.axiomOfChoice h0
  exact ⟨ad, had⟩
def exO (b : Nat) (ad : Nat → Nat × Nat) (fa fz : Nat) (i : Nat) : Nat := if i = 0 then b else if i = 40 then fa else if i = 41 then fz else if i % 2 = 1 then (ad ((i - 1) / 2)).1 else (ad ((i - 2) / 2)).2
theorem exO_k {b : Nat} {ad : Nat → Nat × Nat} {fa fz j : Nat} (h : j < 15) : exO b ad fa fz (1 + 2 * j) = (ad j).1 := by
  unfold exO; rw [if_neg (by omega), if_neg (by omega), if_neg (by omega), if_pos (by omega), show (1 + 2 * j - 1) / 2 = j by omega]
theorem exO_v {b : Nat} {ad : Nat → Nat × Nat} {fa fz j : Nat} (h : j < 15) : exO b ad fa fz (2 + 2 * j) = (ad j).2 := by
  unfold exO; rw [if_neg (by omega), if_neg (by omega), if_neg (by omega), if_neg (by omega), show (2 + 2 * j - 2) / 2 = j by omega]
def tcO (c0 c1 c2 c5 c6 : ClassId) (t : Nat) : ClassId := if t = 20 then c0 else if t = 21 then c1 else if t = 32 then c2 else if t = 35 then c5 else c6
set_option maxRecDepth 20000 in
set_option maxHeartbeats 4000000 in
theorem whole_start (P16 : ∀ G : GC, PairI G M_X11_rules M_X12_rules []) {p : Program} {e : Env} {s : State} {m : MethodId} {below : List Frame} {meth : Method} {c : Code} (l : Launch) {b L : Nat} {xs : Nat → Int32} (hL : L ≤ 3072) (C0 : lw_At p s m meth c b L xs) : W p l e room_1 s m #[Value.ref b] below meth c s.heap [] 0 0 (lw_Z below #[Value.ref b] s) (entryFrame m ([Value.ref b] : List Value).toArray 4) := by
  obtain ⟨hx, hb, hr, hml, hown, hts, hX, hbl, hlocks, hgv, hnm⟩ := C0
  have hf : ∀ w ∈ FL, w.before #[Value.ref b] s = true := flat_of_before _ hgv
  have hA : ∀ a : Nat, a < s.heap.size → ¬ (s.heap.size ≤ a) := fun a h => Nat.not_le.mpr h
  -- classes
  have hk0 : ∀ t : Nat, ∃ q : ClassId × (Nat → Nat), t < 13 → u_Kn s (clN t) (clT t) (nF t) q.1 q.2 := by
    intro t
    by_cases ht : t < 13
    · obtain ⟨cC, iS, h⟩ := u_known (ws := lw_tbl) (args := #[Value.ref b]) (n := nF t) hts (fun w hw => tg_tbl (cls_in ht w hw)) (hts _ (tg_tbl (inst_all ht)))
      exact ⟨(cC, iS), fun _ => h⟩
    · exact ⟨(0, fun _ => 0), fun h => absurd h ht⟩
  obtain ⟨D, hD⟩ := Classical.axiomOfChoice hk0
  obtain ⟨tb1, tb2, tb3, tb4, tb5⟩ := tb_w
  obtain ⟨c0, a0, n0⟩ := arr_of (hts _ tb1)
  obtain ⟨c1, a1, n1⟩ := arr_of (hts _ tb2)
  obtain ⟨c2, a2, n2⟩ := arr_ov (hts _ tb3)
  obtain ⟨c5, a5, n5⟩ := arr_ov (hts _ tb4)
  obtain ⟨c6, a6, n6⟩ := arr_ov (hts _ tb5)
  obtain ⟨aS, had⟩ := str_of (A := fun q => s.heap.size ≤ q) hA hf
  obtain ⟨sn1, sn2, sn3⟩ := tb_n
  obtain ⟨st1, st2, st3, st4⟩ := tb_s
  have hZ1 := va_Zof (A := fun q => s.heap.size ≤ q) (hts _ st1) (hts _ st2) (va_eqi (hf _ fw_cs)) hA
  obtain ⟨fa, fz, hZ2⟩ : ∃ fa fz : Nat, va_Z "jdk/internal/util/Preconditions" "SIOOBE_FORMATTER" "Ljava/util/function/BiFunction;" (if fz = 0 then .null else .ref fa) (fun q => s.heap.size ≤ q) s s.heap := by
    rcases va_Zqof (A := fun q => s.heap.size ≤ q) (hts _ st3) (hts _ st4) (hf _ fw_sf) hA with h | ⟨t, h⟩
    · exact ⟨0, 0, h⟩
    · exact ⟨t, 1, h⟩
  obtain ⟨G, hG⟩ : ∃ G : GC, G = (l, s.heap.size, exO b aS fa fz, ((fun t => (D t).1), (fun t => (D t).2)), tcO c0 c1 c2 c5 c6, L, xs) := ⟨_, rfl⟩
  have gA0 : gA G = fun q => s.heap.size ≤ q := by rw [hG]; rfl
  have gk : ∀ j, j < 15 → gx G (1 + 2 * j) = (aS j).1 := fun j hj => by rw [hG]; exact exO_k hj
  have gv : ∀ j, j < 15 → gx G (2 + 2 * j) = (aS j).2 := fun j hj => by rw [hG]; exact exO_v hj
  have gb0 : gx G 0 = b := by rw [hG]; rfl
  have hfm : cv G (fmV G) = (if fz = 0 then .null else .ref fa) := by
    rw [hG]; unfold fmV
    show cv _ (if fz = 0 then Value.null else Value.ref 40) = _
    by_cases z : fz = 0
    · rw [if_pos z, if_pos z]; rfl
    · rw [if_neg z, if_neg z]; rfl
  have hK : va_K (gD G) vwCl (tyL G) s := by
    rw [hG]
    refine ⟨fun t q hq => ?_, fun k q hq => ?_⟩
    · have ht : t < 13 := by
        have := (List.getElem?_eq_some_iff.mp hq).1
        exact this
      rw [cls_at ht] at hq
      cases hq
      exact hD t ht
    · match k, hq with
      | 0, hq => cases hq; exact ⟨a0, n0⟩
      | 1, hq => cases hq; exact ⟨a1, n1⟩
      | 2, hq => cases hq; exact ⟨a2, n2⟩
      | 3, hq => cases hq; exact ⟨a5, n5⟩
      | 4, hq => cases hq; exact ⟨a6, n6⟩
      | k + 5, hq => cases hq
  have hE : Ex G s s.heap := by
    refine ⟨⟨by rw [gb0]; rw [hG]; exact hX, by rw [gb0]; rw [hG]; exact hbl⟩, ⟨va_AO.of (hts _ tb3), va_AO.of (hts _ tb4), va_AO.of (hts _ tb5)⟩, ⟨hts _ sn1, hts _ sn2, hts _ sn3⟩, fun q hq => ?_, fun j hj => ?_, by rw [gA0]; exact hZ1, by rw [gA0, hfm]; exact hZ2⟩
    · have hw := hts _ (site_w q hq)
      rcases site_9 q hq with ⟨e1, e2, e3⟩ | ⟨e1, e2, e3⟩
      · rw [gk _ e2]
        refine ⟨hw, ?_⟩
        rw [e1, e3]; exact (had _ e2).1
      · rw [gk _ (by omega)]
        refine ⟨hw, ?_⟩
        rw [e1, e3]
        have z : (Term.string RX12 (siteM q.2.2.2)).eval #[Value.ref b] s none [] s = some (.ref (aS q.2.2.2).1) := va_eqR (hf _ (fw_eq _ e2)) (had q.2.2.2 (by omega)).1
        exact z
    · unfold ExS
      rw [gk j hj, gv j hj, gA0]
      exact (had j hj).2
  have hF : Fr G M_L_law p s m #[Value.ref b] meth c := ⟨hx, hb, hml, hown, fun w hw => hts w (tg_tbl hw), hr, hlocks, hnm, hK, hE, by rw [hG]; exact Nat.le_refl _⟩
  have hS : Sr G h0 s s.heap [] := ⟨by rw [hG]; rfl, fun k q hq => (by cases hq), by rw [gA0]; exact va_S.rf⟩
  have hl := lv_entry ([.ref b]) (n := 4) (Nat.le_of_ble_eq_true rfl)
  rw [lg_entry_eq]
  generalize (lg_sl ([.ref b]) ++ List.replicate (4 - (lg_sl ([.ref b])).length) Slot.unset).toArray = ls at hl ⊢
  have hl : lv_has ls 4 [(0, .ref b)] := hl
  have hLr : Lr G M_L_law ls [.ref 0, un, un, un] := by
    refine ⟨hl.1, hl.2.1, rfl, fun i v hv hne => ?_⟩
    match i, hv with
    | 0, hv =>
      cases hv
      have := hl.2.2 (0, .ref b) List.mem_cons_self
      rw [show cv G (.ref 0) = .ref b from by show Value.ref (ad G 0) = _; unfold ad; rw [if_pos (by decide), gb0]]
      exact this
    | 1, hv => cases hv; exact absurd rfl hne
    | 2, hv => cases hv; exact absurd rfl hne
    | 3, hv => cases hv; exact absurd rfl hne
    | i + 4, hv => cases hv
  have hgl : gl G = l := by rw [hG]
  have hgL : gL G = L := by rw [hG]
  have main := law_go (G := G) (K := fun r _ => r = some (.int 1)) (by rw [hgL]; exact hL) (pairs_all (P16 G)) (fun _ _ => rfl) p e s m #[Value.ref b] below meth c room_1 s.heap [] 0 0 (lw_Z below #[Value.ref b] s) ls hF hS hLr (Nat.le_of_ble_eq_true rfl) (Nat.le_of_ble_eq_true rfl) (Nat.le_of_ble_eq_true rfl) (Nat.le_of_ble_eq_true rfl) (fun r h' pc' H' locs' cells' slots' ls' hEn hr1 hS' hc1 hc2 => ?_)
  · rw [hgl] at main; exact main
  · rw [hgl]
    subst hr1
    refine va_forget (fun q hq => ?_) (W.widen (k := 600000) (n := 7302250) (by have : (600000 : Nat) = 600000 := rfl; omega) (by omega) ?_)
    · have := hS'.2.2.2.2 q hq
      rw [gA0] at this; exact this
    · rcases hEn with ⟨v, ty, e1, e2, e3, e4⟩ | ⟨v, e1, -⟩ | ⟨v, C, e1, -⟩ | ⟨e1, -⟩
      · exact lw_ret hx hb hr hlocks e4
      · cases e1
      · cases v <;> cases e1
      · cases e1
