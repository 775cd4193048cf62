/-! rules: what a burst is told to be; pair: kind -/
/-- the kinds of what lies on the stack -/
def Ty : List Bool → List Int32 → Prop
  | [], [] => True
  | t :: ts, v :: st => (t = true → v = 0 ∨ v = 1) ∧ Ty ts st
  | _, _ => False
theorem Ty.len : ∀ {ts : List Bool} {st : List Int32}, Ty ts st → ts.length = st.length
  | [], [], _ => rfl
  | t :: ts, v :: st, h => by rw [List.length_cons, List.length_cons, Ty.len h.2]
  | [], _ :: _, h => h.elim
  | _ :: _, [], h => h.elim
theorem Ty.c1 {t : Bool} {ts : List Bool} {st : List Int32} (h : Ty (t :: ts) st) : ∃ v r, st = v :: r ∧ (t = true → v = 0 ∨ v = 1) ∧ Ty ts r := by
  cases st with
  | nil => exact h.elim
  | cons v r => exact ⟨v, r, rfl, h.1, h.2⟩
theorem ty_cases {ts ts' : List Bool} {k : Nat} {v : Int32} (e : tyS ts (k, v) = some ts') : (k = 0 ∧ (0 ≤ v.toInt ∧ v.toInt ≤ 9999) ∧ ts.length < 40 ∧ ts' = false :: ts) ∨ ((1 ≤ k ∧ k ≤ 7) ∧ ts.length < 40 ∧ ts' = false :: ts) ∨ (k = 11 ∧ (1 ≤ v.toInt ∧ v.toInt ≤ 9999) ∧ ∃ r, ts = false :: r ∧ r.length + 1 < 40 ∧ ts' = false :: r) ∨ ((k = 8 ∨ k = 9 ∨ k = 10) ∧ ∃ r, ts = false :: false :: r ∧ ts' = false :: r) ∨ ((k = 12 ∨ k = 13 ∨ k = 14) ∧ ∃ r, ts = false :: false :: r ∧ ts' = true :: r) ∨ (k = 15 ∧ ∃ r, ts = true :: r ∧ ts' = true :: r) ∨ ((k = 16 ∨ k = 17) ∧ ∃ r, ts = true :: true :: r ∧ ts' = true :: r) := by
  unfold tyS at e
  simp only at e
  split at e
  · rename_i hk
    split at e
    · rename_i h; cases e; exact Or.inl ⟨hk, ⟨h.1, h.2.1⟩, h.2.2, rfl⟩
    · cases e
  · split at e
    · rename_i hk hk2
      split at e
      · rename_i h; cases e; exact Or.inr (Or.inl ⟨by omega, h, rfl⟩)
      · cases e
    · split at e
      · rename_i hk
        split at e
        · split at e
          · rename_i r h; cases e; exact Or.inr (Or.inr (Or.inl ⟨hk, ⟨h.1, h.2.1⟩, r, rfl, h.2.2, rfl⟩))
          · cases e
        · cases e
      · split at e
        · split at e
          · rename_i r; cases e; exact Or.inr (Or.inr (Or.inr (Or.inl ⟨by omega, r, rfl, rfl⟩)))
          · cases e
        · split at e
          · split at e
            · rename_i r; cases e; exact Or.inr (Or.inr (Or.inr (Or.inr (Or.inl ⟨by omega, r, rfl, rfl⟩))))
            · cases e
          · split at e
            · rename_i hk
              split at e
              · rename_i r; cases e; exact Or.inr (Or.inr (Or.inr (Or.inr (Or.inr (Or.inl ⟨hk, r, rfl, rfl⟩)))))
              · cases e
            · split at e
              · split at e
                · rename_i r; cases e; exact Or.inr (Or.inr (Or.inr (Or.inr (Or.inr (Or.inr ⟨by omega, r, rfl, rfl⟩)))))
                · cases e
              · cases e
/-- a step of the model on its stack -/
def evS (F : Nat → Int32) (s : Stp2) (st : List Int32) : List Int32 :=
  if s.1 = 0 then s.2 :: st else if s.1 ≤ 7 then F s.1 :: st else if s.1 = 11 then (st.headD 0 / s.2) :: st.tail else if s.1 = 15 then (iZ 1 - st.headD 0) :: st.tail else bopV s.1 (st.tail.headD 0) (st.headD 0) :: st.tail.tail
def evR (F : Nat → Int32) : List Stp2 → List Int32 → List Int32
  | [], st => st
  | s :: r, st => evR F r (evS F s st)
theorem ev0 {F : Nat → Int32} {v : Int32} {st : List Int32} : evS F (0, v) st = v :: st := rfl
theorem ev7 {F : Nat → Int32} {k : Nat} {v : Int32} {st : List Int32} (h : 1 ≤ k ∧ k ≤ 7) : evS F (k, v) st = F k :: st := by unfold evS; rw [if_neg (by show ¬ k = 0; omega), if_pos h.2]
theorem ev11 {F : Nat → Int32} {v a : Int32} {st : List Int32} : evS F (11, v) (a :: st) = (a / v) :: st := rfl
theorem ev15 {F : Nat → Int32} {v a : Int32} {st : List Int32} : evS F (15, v) (a :: st) = (iZ 1 - a) :: st := rfl
theorem evb {F : Nat → Int32} {k : Nat} {v a b : Int32} {st : List Int32} (h : 8 ≤ k ∧ k ≠ 11 ∧ k ≠ 15) : evS F (k, v) (b :: a :: st) = bopV k a b :: st := by
  unfold evS
  rw [if_neg (by show ¬ k = 0; omega), if_neg (by show ¬ k ≤ 7; omega), if_neg (by show ¬ k = 11; omega), if_neg (by show ¬ k = 15; omega)]; rfl
theorem i01c {P : Prop} [Decidable P] : (if P then (1 : Int32) else 0) = 0 ∨ (if P then (1 : Int32) else 0) = 1 := by by_cases h : P <;> simp [h]
theorem ty_ev {F : Nat → Int32} {ts ts' : List Bool} {s : Stp2} {st : List Int32} (e : tyS ts s = some ts') (T : Ty ts st) (hl : ts.length ≤ 40) : Ty ts' (evS F s st) ∧ ts'.length ≤ 40 := by
  obtain ⟨k, v⟩ := s
  rcases ty_cases e with ⟨rfl, hv, h1, rfl⟩ | ⟨hk, h1, rfl⟩ | ⟨rfl, hv, r, rfl, h1, rfl⟩ | ⟨hk, r, rfl, rfl⟩ | ⟨hk, r, rfl, rfl⟩ | ⟨rfl, r, rfl, rfl⟩ | ⟨hk, r, rfl, rfl⟩
  · exact ⟨⟨fun z => (by cases z), T⟩, h1⟩
  · rw [ev7 hk]; exact ⟨⟨fun z => (by cases z), T⟩, h1⟩
  · obtain ⟨a, x, rfl, -, T1⟩ := T.c1
    exact ⟨⟨fun z => (by cases z), T1⟩, hl⟩
  · obtain ⟨b, x, rfl, -, T1⟩ := T.c1
    obtain ⟨a, y, rfl, -, T2⟩ := T1.c1
    rw [evb (by omega)]
    exact ⟨⟨fun z => (by cases z), T2⟩, by simp only [List.length_cons] at hl ⊢; omega⟩
  · obtain ⟨b, x, rfl, -, T1⟩ := T.c1
    obtain ⟨a, y, rfl, -, T2⟩ := T1.c1
    rw [evb (by omega)]
    refine ⟨⟨fun _ => ?_, T2⟩, by simp only [List.length_cons] at hl ⊢; omega⟩
    rcases hk with rfl | rfl | rfl <;> exact i01c
  · obtain ⟨a, x, rfl, h1, T1⟩ := T.c1
    refine ⟨⟨fun _ => ?_, T1⟩, hl⟩
    rcases h1 rfl with rfl | rfl
    · exact Or.inr (show iZ 1 - (0 : Int32) = 1 by decide)
    · exact Or.inl (show iZ 1 - (1 : Int32) = 0 by decide)
  · obtain ⟨b, x, rfl, h1, T1⟩ := T.c1
    obtain ⟨a, y, rfl, h2, T2⟩ := T1.c1
    rw [evb (by omega)]
    refine ⟨⟨fun _ => ?_, T2⟩, by simp only [List.length_cons] at hl ⊢; omega⟩
    rcases h1 rfl with rfl | rfl <;> rcases h2 rfl with rfl | rfl <;> rcases hk with rfl | rfl <;> decide
/-- the class's codes -/
def jl (F : Nat → Int32) : List Int32 → List Int32 → Int
  | [], _ => 0
  | c :: r, st => if 20000 ≤ c.toInt then (if st.headD 0 = 0 then jl F r st.tail else c.toInt - 20000) else jl F r (cst F c.toInt st)
theorem jl_c {F : Nat → Int32} {c : Int32} {r st : List Int32} (h : c.toInt < 20000) : jl F (c :: r) st = jl F r (cst F c.toInt st) := by show (if _ then _ else _) = _; rw [if_neg (by omega)]
theorem drop_s {cs : List Int32} {i : Nat} (h : i < cs.length) : cs.drop i = cs.getD i 0 :: cs.drop (i + 1) := by
  rw [List.drop_eq_getElem_cons h, List.getD_eq_getElem?_getD, List.getElem?_eq_getElem h]; rfl
theorem jx_jl {F : Nat → Int32} {cs : List Int32} : ∀ (m i : Nat) (st : List Int32), i + m = cs.length → jx (fun i => (cs.getD i 0).toInt) F m i st = jl F (cs.drop i) st
  | 0, i, st, h => by rw [List.drop_eq_nil_of_le (by omega)]; rfl
  | m + 1, i, st, h => by
    rw [drop_s (by omega)]
    show (if _ then (if _ then _ else _) else _) = (if _ then (if _ then _ else _) else _)
    rw [jx_jl m (i + 1) _ (by omega), jx_jl m (i + 1) _ (by omega)]
theorem cst_n {F : Nat → Int32} {v : Int32} {st : List Int32} (h : v.toInt < 10000) (hl : st.length < 40) : cst F v.toInt st = v :: st := by unfold cst; rw [if_pos h, iZ_self, pushC_t hl]
theorem cst_f {F : Nat → Int32} {k : Nat} {st : List Int32} (h : 1 ≤ k ∧ k ≤ 7) (hl : st.length < 40) : cst F ((10006 + k : Nat) : Int) st = F k :: st := by
  unfold cst
  rw [if_neg (by omega), if_neg (by omega), if_pos (by omega), pushC_t hl, show (((10006 + k : Nat) : Int) - 10006).toNat = k by omega]
theorem stepC7 {k : Nat} {v : Int32} (h : 1 ≤ k ∧ k ≤ 7) : stepC (k, v) = [nI (10006 + k)] := by
  rcases (show k = 1 ∨ k = 2 ∨ k = 3 ∨ k = 4 ∨ k = 5 ∨ k = 6 ∨ k = 7 by omega) with rfl | rfl | rfl | rfl | rfl | rfl | rfl <;> rfl
theorem nI_t {n : Nat} (h : n < 100000) : (nI n).toInt = (n : Int) := i_nI (by omega)
theorem jl_step {F : Nat → Int32} {ts ts' : List Bool} {s : Stp2} {st r : List Int32} (e : tyS ts s = some ts') (T : Ty ts st) (hl : ts.length ≤ 40) : jl F (stepC s ++ r) st = jl F r (evS F s st) := by
  obtain ⟨k, v⟩ := s
  have tl := T.len
  rcases ty_cases e with ⟨rfl, hv, h1, rfl⟩ | ⟨hk, h1, rfl⟩ | ⟨rfl, hv, q, rfl, h1, rfl⟩ | ⟨hk, q, rfl, rfl⟩ | ⟨hk, q, rfl, rfl⟩ | ⟨rfl, q, rfl, rfl⟩ | ⟨hk, q, rfl, rfl⟩
  · show jl F (v :: r) st = _
    rw [jl_c (by omega), cst_n (by omega) (by omega)]; rfl
  · rw [stepC7 hk]
    show jl F (nI (10006 + k) :: r) st = _
    rw [jl_c (by rw [nI_t (by omega)]; omega), nI_t (by omega), cst_f hk (by omega), ev7 hk]
  · obtain ⟨a, x, rfl, -, T1⟩ := T.c1
    have tl1 := T1.len
    show jl F (v :: 10147 :: r) (a :: x) = _
    rw [jl_c (by omega), cst_n (by omega) (by simp only [List.length_cons]; omega), jl_c (by decide), ev11]
    have e2 : cst F (10147 : Int32).toInt (v :: a :: x) = pushC x (bopV 11 a v) := rfl
    rw [e2, pushC_t (by omega)]
    have e3 : bopV 11 a v = a / v := if_neg (fun z => by rw [z] at hv; exact absurd hv.1 (by decide))
    rw [e3]
  · obtain ⟨b, x, rfl, -, T1⟩ := T.c1
    obtain ⟨a, y, rfl, -, T2⟩ := T1.c1
    simp only [List.length_cons] at tl hl
    rw [evb (by omega)]
    rcases hk with rfl | rfl | rfl
    · show jl F (10143 :: r) _ = _
      rw [jl_c (by decide), show cst F (10143 : Int32).toInt (b :: a :: y) = pushC y (bopV 8 a b) from rfl, pushC_t (by omega)]
    · show jl F (10145 :: r) _ = _
      rw [jl_c (by decide), show cst F (10145 : Int32).toInt (b :: a :: y) = pushC y (bopV 9 a b) from rfl, pushC_t (by omega)]
    · show jl F (10142 :: r) _ = _
      rw [jl_c (by decide), show cst F (10142 : Int32).toInt (b :: a :: y) = pushC y (bopV 10 a b) from rfl, pushC_t (by omega)]
  · obtain ⟨b, x, rfl, -, T1⟩ := T.c1
    obtain ⟨a, y, rfl, -, T2⟩ := T1.c1
    simp only [List.length_cons] at tl hl
    rw [evb (by omega)]
    rcases hk with rfl | rfl | rfl
    · show jl F (10160 :: r) _ = _
      rw [jl_c (by decide), show cst F (10160 : Int32).toInt (b :: a :: y) = pushC y (bopV 12 a b) from rfl, pushC_t (by omega)]
    · show jl F (10161 :: r) _ = _
      rw [jl_c (by decide), show cst F (10161 : Int32).toInt (b :: a :: y) = pushC y (bopV 13 a b) from rfl, pushC_t (by omega)]
    · show jl F (10162 :: r) _ = _
      rw [jl_c (by decide), show cst F (10162 : Int32).toInt (b :: a :: y) = pushC y (bopV 14 a b) from rfl, pushC_t (by omega)]
  · obtain ⟨a, x, rfl, h1, T1⟩ := T.c1
    simp only [List.length_cons] at tl hl
    show jl F (10006 :: r) _ = _
    rw [jl_c (by decide), show cst F (10006 : Int32).toInt (a :: x) = pushC x (iZ 1 - a) from rfl, pushC_t (by omega), ev15]
  · obtain ⟨b, x, rfl, -, T1⟩ := T.c1
    obtain ⟨a, y, rfl, -, T2⟩ := T1.c1
    simp only [List.length_cons] at tl hl
    rw [evb (by omega)]
    rcases hk with rfl | rfl
    · show jl F (10005 :: r) _ = _
      rw [jl_c (by decide), show cst F (10005 : Int32).toInt (b :: a :: y) = pushC y (bopV 16 a b) from rfl, pushC_t (by omega)]
    · show jl F (10004 :: r) _ = _
      rw [jl_c (by decide), show cst F (10004 : Int32).toInt (b :: a :: y) = pushC y (bopV 17 a b) from rfl, pushC_t (by omega)]
theorem jl_steps {F : Nat → Int32} {r : List Int32} : ∀ {l : List Stp2} {ts ts' : List Bool} {st : List Int32}, tyR l ts = some ts' → Ty ts st → ts.length ≤ 40 → jl F (l.flatMap stepC ++ r) st = jl F r (evR F l st) ∧ Ty ts' (evR F l st)
  | [], ts, ts', st, e, T, hl => by cases e; exact ⟨rfl, T⟩
  | s :: l, ts, ts', st, e, T, hl => by
    have e : (tyS ts s).bind (tyR l) = some ts' := e
    cases h : tyS ts s with
    | none => rw [h] at e; cases e
    | some t1 =>
      rw [h] at e
      have e : tyR l t1 = some ts' := e
      have t := ty_ev (F := F) h T hl
      rw [List.flatMap_cons, List.append_assoc, jl_step h T hl]
      exact jl_steps e t.1 t.2
def kindP (F : Nat → Int32) : List Lin → Int
  | [] => 0
  | l :: r => if (evR F l.2 []).headD 0 = 1 then (l.1 : Int) else kindP F r
theorem jl_kind {F : Nat → Int32} : ∀ {p : List Lin}, (∀ l ∈ p, goodL l) → jl F (codesC p) [] = kindP F p
  | [], _ => rfl
  | l :: p, h => by
    obtain ⟨h1, h3, ht⟩ := h l List.mem_cons_self
    have e : codesC (l :: p) = l.2.flatMap stepC ++ (nI (20000 + l.1) :: codesC p) := by
      unfold codesC; rw [List.flatMap_cons]; unfold lineC; rw [List.append_assoc]; rfl
    have t := jl_steps (F := F) (r := nI (20000 + l.1) :: codesC p) ht (st := []) trivial (by simp)
    rw [e, t.1]
    obtain ⟨v, x, ev, hv, hx⟩ := t.2.c1
    cases x with
    | cons _ _ => exact hx.elim
    | nil =>
      show (if _ then (if _ then _ else _) else _) = (if _ then _ else _)
      rw [ev, if_pos (by rw [nI_t (by omega)]; omega), nI_t (by omega)]
      show (if v = 0 then jl F (codesC p) [] else ((20000 + l.1 : Nat) : Int) - 20000) = (if v = 1 then _ else _)
      rw [jl_kind (fun z hz => h z (List.mem_cons_of_mem _ hz))]
      rcases hv rfl with rfl | rfl
      · rw [if_pos rfl, if_neg (by decide)]
      · rw [if_neg (by decide), if_pos rfl]; omega
theorem cod_step {ts ts' : List Bool} {s : Stp2} (e : tyS ts s = some ts') : ∀ c ∈ stepC s, cod c.toInt := by
  obtain ⟨k, v⟩ := s
  intro c hc
  rcases ty_cases e with ⟨rfl, hv, -, -⟩ | ⟨hk, -, -⟩ | ⟨rfl, hv, -, -⟩ | ⟨hk, -⟩ | ⟨hk, -⟩ | ⟨rfl, -⟩ | ⟨hk, -⟩
  · have hc : c ∈ [v] := hc
    rw [List.mem_singleton] at hc; subst hc; unfold cod; omega
  · rw [stepC7 hk, List.mem_singleton] at hc; subst hc; rw [nI_t (by omega)]; unfold cod; omega
  · have hc : c ∈ [v, 10147] := hc
    simp only [List.mem_cons, List.not_mem_nil, or_false] at hc
    rcases hc with rfl | rfl
    · unfold cod; omega
    · unfold cod; decide
  · rcases hk with rfl | rfl | rfl
    · have hc : c ∈ [(10143 : Int32)] := hc
      rw [List.mem_singleton] at hc; subst hc; unfold cod; decide
    · have hc : c ∈ [(10145 : Int32)] := hc
      rw [List.mem_singleton] at hc; subst hc; unfold cod; decide
    · have hc : c ∈ [(10142 : Int32)] := hc
      rw [List.mem_singleton] at hc; subst hc; unfold cod; decide
  · rcases hk with rfl | rfl | rfl
    · have hc : c ∈ [(10160 : Int32)] := hc
      rw [List.mem_singleton] at hc; subst hc; unfold cod; decide
    · have hc : c ∈ [(10161 : Int32)] := hc
      rw [List.mem_singleton] at hc; subst hc; unfold cod; decide
    · have hc : c ∈ [(10162 : Int32)] := hc
      rw [List.mem_singleton] at hc; subst hc; unfold cod; decide
  · have hc : c ∈ [(10006 : Int32)] := hc
    rw [List.mem_singleton] at hc; subst hc; unfold cod; decide
  · rcases hk with rfl | rfl
    · have hc : c ∈ [(10005 : Int32)] := hc
      rw [List.mem_singleton] at hc; subst hc; unfold cod; decide
    · have hc : c ∈ [(10004 : Int32)] := hc
      rw [List.mem_singleton] at hc; subst hc; unfold cod; decide
theorem cod_steps : ∀ {l : List Stp2} {ts ts' : List Bool}, tyR l ts = some ts' → ∀ c ∈ l.flatMap stepC, cod c.toInt
  | [], ts, ts', _, c, hc => by cases hc
  | s :: l, ts, ts', e, c, hc => by
    have e : (tyS ts s).bind (tyR l) = some ts' := e
    cases h : tyS ts s with
    | none => rw [h] at e; cases e
    | some t1 =>
      rw [h] at e
      rw [List.flatMap_cons, List.mem_append] at hc
      rcases hc with hc | hc
      · exact cod_step h c hc
      · exact cod_steps (ts := t1) e c hc
theorem cod_all : ∀ {p : List Lin}, (∀ l ∈ p, goodL l) → ∀ c ∈ codesC p, cod c.toInt
  | [], _, c, hc => by cases hc
  | l :: p, h, c, hc => by
    have hc : c ∈ lineC l ++ codesC p := hc
    rw [List.mem_append] at hc
    rcases hc with hc | hc
    · obtain ⟨h1, h3, ht⟩ := h l List.mem_cons_self
      unfold lineC at hc
      rw [List.mem_append, List.mem_singleton] at hc
      rcases hc with hc | rfl
      · exact cod_steps ht c hc
      · rw [nI_t (by omega)]; unfold cod; omega
    · exact cod_all (fun z hz => h z (List.mem_cons_of_mem _ hz)) c hc

set_option maxRecDepth 20000 in
set_option maxHeartbeats 1000000 in
theorem s_both8 {G : GC} {d mc ms : Nat} {h : HS} {K : Option Value → HS → Prop} {a b : Int32} (hk : K (some (.int (bopV 8 a b))) h) : Go G d mc ms M_X12_both 0 [.int (iZ 8), .int a, .int b] [] h K := by
  obtain ⟨X, hX, rfl⟩ := i_eta a
  obtain ⟨Y, hY, rfl⟩ := i_eta b
  refine Go_iload_n (pc' := 1) dX12_both_0 rfl rfl rfl ?_
  refine Go_tableIn (off := 51) (tgt := 52) dX12_both_1 (by decide) (by decide) (by decide) (by decide) ?_
  refine Go_iload_n (pc' := 53) dX12_both_52 rfl rfl rfl ?_
  refine Go_iload_n (pc' := 54) dX12_both_53 rfl rfl rfl ?_
  refine Go_iaddZ (pc' := 55) dX12_both_54 rfl ?_
  refine Go_ireturn (ty := .int) dX12_both_55 rfl rfl ?_
  have hk : K (some (.int (iZ X + iZ Y))) h := hk
  rw [iZ_add] at hk; exact hk
set_option maxRecDepth 20000 in
set_option maxHeartbeats 1000000 in
theorem s_both9 {G : GC} {d mc ms : Nat} {h : HS} {K : Option Value → HS → Prop} {a b : Int32} (hk : K (some (.int (bopV 9 a b))) h) : Go G d mc ms M_X12_both 0 [.int (iZ 9), .int a, .int b] [] h K := by
  obtain ⟨X, hX, rfl⟩ := i_eta a
  obtain ⟨Y, hY, rfl⟩ := i_eta b
  refine Go_iload_n (pc' := 1) dX12_both_0 rfl rfl rfl ?_
  refine Go_tableIn (off := 55) (tgt := 56) dX12_both_1 (by decide) (by decide) (by decide) (by decide) ?_
  refine Go_iload_n (pc' := 57) dX12_both_56 rfl rfl rfl ?_
  refine Go_iload_n (pc' := 58) dX12_both_57 rfl rfl rfl ?_
  refine Go_isubZ (pc' := 59) dX12_both_58 rfl ?_
  refine Go_ireturn (ty := .int) dX12_both_59 rfl rfl ?_
  have hk : K (some (.int (iZ X - iZ Y))) h := hk
  rw [iZ_sub] at hk; exact hk
set_option maxRecDepth 20000 in
set_option maxHeartbeats 1000000 in
theorem s_both10 {G : GC} {d mc ms : Nat} {h : HS} {K : Option Value → HS → Prop} {a b : Int32} (hk : K (some (.int (bopV 10 a b))) h) : Go G d mc ms M_X12_both 0 [.int (iZ 10), .int a, .int b] [] h K := by
  obtain ⟨X, hX, rfl⟩ := i_eta a
  obtain ⟨Y, hY, rfl⟩ := i_eta b
  refine Go_iload_n (pc' := 1) dX12_both_0 rfl rfl rfl ?_
  refine Go_tableIn (off := 59) (tgt := 60) dX12_both_1 (by decide) (by decide) (by decide) (by decide) ?_
  refine Go_iload_n (pc' := 61) dX12_both_60 rfl rfl rfl ?_
  refine Go_iload_n (pc' := 62) dX12_both_61 rfl rfl rfl ?_
  refine Go_imulZ (pc' := 63) dX12_both_62 rfl ?_
  refine Go_ireturn (ty := .int) dX12_both_63 rfl rfl ?_
  have hk : K (some (.int (iZ X * iZ Y))) h := hk
  rw [iZ_mul] at hk; exact hk
set_option maxRecDepth 20000 in
set_option maxHeartbeats 1000000 in
theorem s_both12 {G : GC} {d mc ms : Nat} {h : HS} {K : Option Value → HS → Prop} {a b : Int32} (hk : K (some (.int (bopV 12 a b))) h) : Go G d mc ms M_X12_both 0 [.int (iZ 12), .int a, .int b] [] h K := by
  obtain ⟨X, hX, rfl⟩ := i_eta a
  obtain ⟨Y, hY, rfl⟩ := i_eta b
  refine Go_iload_n (pc' := 1) dX12_both_0 rfl rfl rfl ?_
  refine Go_tableIn (off := 63) (tgt := 64) dX12_both_1 (by decide) (by decide) (by decide) (by decide) ?_
  refine Go_iload_n (pc' := 65) dX12_both_64 rfl rfl rfl ?_
  refine Go_iload_n (pc' := 66) dX12_both_65 rfl rfl rfl ?_
  refine Go_icmp_geY (tgt := 73) (pc' := 69) dX12_both_66 (by decide) rfl (by first | exact ⟨i_lo _, i_hi _⟩ | omega) (by first | exact ⟨i_lo _, i_hi _⟩ | omega) (fun c66 => ?_) (fun c66 => ?_)
  · refine Go_iconst (v := iZ 0) (pc' := 74) dX12_both_73 rfl (by decide) ?_
    refine Go_ireturn (ty := .int) dX12_both_74 rfl rfl ?_
    have hk : K (some (.int (if _ then 1 else 0))) h := hk
    rw [iZ_t hX, iZ_t hY, if_neg (by omega)] at hk; exact hk
  · refine Go_iconst (v := iZ 1) (pc' := 70) dX12_both_69 rfl (by decide) ?_
    refine Go_goto (tgt := 74) dX12_both_70 (by decide) ?_
    refine Go_ireturn (ty := .int) dX12_both_74 rfl rfl ?_
    have hk : K (some (.int (if _ then 1 else 0))) h := hk
    rw [iZ_t hX, iZ_t hY, if_pos (by omega)] at hk; exact hk
set_option maxRecDepth 20000 in
set_option maxHeartbeats 1000000 in
theorem s_both13 {G : GC} {d mc ms : Nat} {h : HS} {K : Option Value → HS → Prop} {a b : Int32} (hk : K (some (.int (bopV 13 a b))) h) : Go G d mc ms M_X12_both 0 [.int (iZ 13), .int a, .int b] [] h K := by
  obtain ⟨X, hX, rfl⟩ := i_eta a
  obtain ⟨Y, hY, rfl⟩ := i_eta b
  refine Go_iload_n (pc' := 1) dX12_both_0 rfl rfl rfl ?_
  refine Go_tableIn (off := 74) (tgt := 75) dX12_both_1 (by decide) (by decide) (by decide) (by decide) ?_
  refine Go_iload_n (pc' := 76) dX12_both_75 rfl rfl rfl ?_
  refine Go_iload_n (pc' := 77) dX12_both_76 rfl rfl rfl ?_
  refine Go_icmp_neY (tgt := 84) (pc' := 80) dX12_both_77 (by decide) rfl (by first | exact ⟨i_lo _, i_hi _⟩ | omega) (by first | exact ⟨i_lo _, i_hi _⟩ | omega) (fun c77 => ?_) (fun c77 => ?_)
  · refine Go_iconst (v := iZ 0) (pc' := 85) dX12_both_84 rfl (by decide) ?_
    refine Go_ireturn (ty := .int) dX12_both_85 rfl rfl ?_
    have hk : K (some (.int (if _ then 1 else 0))) h := hk
    rw [iZ_t hX, iZ_t hY, if_neg (by omega)] at hk; exact hk
  · refine Go_iconst (v := iZ 1) (pc' := 81) dX12_both_80 rfl (by decide) ?_
    refine Go_goto (tgt := 85) dX12_both_81 (by decide) ?_
    refine Go_ireturn (ty := .int) dX12_both_85 rfl rfl ?_
    have hk : K (some (.int (if _ then 1 else 0))) h := hk
    rw [iZ_t hX, iZ_t hY, if_pos (by omega)] at hk; exact hk
set_option maxRecDepth 20000 in
set_option maxHeartbeats 1000000 in
theorem s_both14 {G : GC} {d mc ms : Nat} {h : HS} {K : Option Value → HS → Prop} {a b : Int32} (hk : K (some (.int (bopV 14 a b))) h) : Go G d mc ms M_X12_both 0 [.int (iZ 14), .int a, .int b] [] h K := by
  obtain ⟨X, hX, rfl⟩ := i_eta a
  obtain ⟨Y, hY, rfl⟩ := i_eta b
  refine Go_iload_n (pc' := 1) dX12_both_0 rfl rfl rfl ?_
  refine Go_tableIn (off := 85) (tgt := 86) dX12_both_1 (by decide) (by decide) (by decide) (by decide) ?_
  refine Go_iload_n (pc' := 87) dX12_both_86 rfl rfl rfl ?_
  refine Go_iload_n (pc' := 88) dX12_both_87 rfl rfl rfl ?_
  refine Go_icmp_leY (tgt := 95) (pc' := 91) dX12_both_88 (by decide) rfl (by first | exact ⟨i_lo _, i_hi _⟩ | omega) (by first | exact ⟨i_lo _, i_hi _⟩ | omega) (fun c88 => ?_) (fun c88 => ?_)
  · refine Go_iconst (v := iZ 0) (pc' := 96) dX12_both_95 rfl (by decide) ?_
    refine Go_ireturn (ty := .int) dX12_both_96 rfl rfl ?_
    have hk : K (some (.int (if _ then 1 else 0))) h := hk
    rw [iZ_t hX, iZ_t hY, if_neg (by omega)] at hk; exact hk
  · refine Go_iconst (v := iZ 1) (pc' := 92) dX12_both_91 rfl (by decide) ?_
    refine Go_goto (tgt := 96) dX12_both_92 (by decide) ?_
    refine Go_ireturn (ty := .int) dX12_both_96 rfl rfl ?_
    have hk : K (some (.int (if _ then 1 else 0))) h := hk
    rw [iZ_t hX, iZ_t hY, if_pos (by omega)] at hk; exact hk
set_option maxRecDepth 20000 in
set_option maxHeartbeats 1000000 in
theorem s_both16 {G : GC} {d mc ms : Nat} {h : HS} {K : Option Value → HS → Prop} {a b : Int32} (hk : K (some (.int (bopV 16 a b))) h) : Go G d mc ms M_X12_both 0 [.int (iZ 16), .int a, .int b] [] h K := by
  obtain ⟨X, hX, rfl⟩ := i_eta a
  obtain ⟨Y, hY, rfl⟩ := i_eta b
  refine Go_iload_n (pc' := 1) dX12_both_0 rfl rfl rfl ?_
  refine Go_tableIn (off := 96) (tgt := 97) dX12_both_1 (by decide) (by decide) (by decide) (by decide) ?_
  refine Go_iload_n (pc' := 98) dX12_both_97 rfl rfl rfl ?_
  refine Go_iload_n (pc' := 99) dX12_both_98 rfl rfl rfl ?_
  refine Go_iand (pc' := 100) dX12_both_99 rfl ?_
  refine Go_ireturn (ty := .int) dX12_both_100 rfl rfl ?_
  exact hk
set_option maxRecDepth 20000 in
set_option maxHeartbeats 1000000 in
theorem s_both17 {G : GC} {d mc ms : Nat} {h : HS} {K : Option Value → HS → Prop} {a b : Int32} (hk : K (some (.int (bopV 17 a b))) h) : Go G d mc ms M_X12_both 0 [.int (iZ 17), .int a, .int b] [] h K := by
  obtain ⟨X, hX, rfl⟩ := i_eta a
  obtain ⟨Y, hY, rfl⟩ := i_eta b
  refine Go_iload_n (pc' := 1) dX12_both_0 rfl rfl rfl ?_
  refine Go_tableOut (tgt := 101) dX12_both_1 (by decide) (by decide) ?_
  refine Go_iload_n (pc' := 102) dX12_both_101 rfl rfl rfl ?_
  refine Go_iload_n (pc' := 103) dX12_both_102 rfl rfl rfl ?_
  refine Go_ior (pc' := 104) dX12_both_103 rfl ?_
  refine Go_ireturn (ty := .int) dX12_both_104 rfl rfl ?_
  exact hk
set_option maxRecDepth 20000 in
set_option maxHeartbeats 4000000 in
theorem ct_loop {G : GC} {d mc ms : Nat} {h : HS} {K : Option Value → HS → Prop} (S : Shp h) {F : Nat → Int32} (hF : ∀ k, 1 ≤ k → k ≤ 7 → vi h 115 k = F k) {b : Int} {e : Nat} (he : e ≤ 600) : ∀ (l : List Stp2) (i : Nat) (st : List Int32) (ts : List Bool) (u : Nat → Int32) (t : Int) (v5 v6 : Value), i + l.length = e → t = (st.length : Int) → tyR l ts = some [true] → Ty ts st → ts.length ≤ 40 → (∀ x, x < l.length → vi h 118 (2 * (i + x)) = nI (l.getD x (0, 0)).1 ∧ vi h 118 (2 * (i + x) + 1) = (l.getD x (0, 0)).2) → St u st → (∀ u', K (some (.int ((evR F l st).headD 0))) (setR h 117 u')) → Go G (d + 1) mc ms M_X12_comesTo 5 [.ref 99, .int (iZ b), .int (iZ (e : Int)), .int (iZ t), .int (iZ (i : Int)), v5, v6] [] (setR h 117 u) K := by
  intro l
  induction l with
  | nil =>
    intro i st ts u t v5 v6 hi hn ht T hl hs hU hk
    cases ht
    obtain ⟨v, x, rfl, hv, hx⟩ := T.c1
    cases x with
    | cons _ _ => exact hx.elim
    | nil =>
      refine Go_iload (pc' := 7) dX12_comesTo_5 rfl rfl ?_
      refine Go_iload_n (pc' := 8) dX12_comesTo_7 rfl rfl rfl ?_
      refine Go_icmp_geY (tgt := 158) (pc' := 11) dX12_comesTo_8 (by decide) rfl (by first | exact ⟨i_lo _, i_hi _⟩ | omega) (by first | exact ⟨i_lo _, i_hi _⟩ | omega) (fun c8 => ?_) (fun c8 => by simp only [List.length_nil] at hi; exfalso; omega)
      refine Go_aload_n (pc' := 159) dX12_comesTo_158 rfl rfl rfl ?_
      refine Go_getRs (pc' := 162) dX12_comesTo_159 rfl kf_RX12_61 (by decide) (by decide) rfl (S.b 99 rfl rfl) (S.o 99 rfl rfl rfl) (S.r 99 18 rfl rfl rfl) ?_
      refine Go_iconst (v := iZ 0) (pc' := 163) dX12_comesTo_162 rfl (by decide) ?_
      refine Go_ialoadZ (n := 620) (k := 0) (v := (iZ v.toInt)) (pc' := 164) dX12_comesTo_163 rfl (S.b 117 rfl rfl) (S.k 117 rfl rfl rfl) rfl (by decide) (by decide) (((vi_setR h 117 u 0).trans (hU.top (st := []))).trans (iZ_self v).symm) ?_
      refine Go_ireturn (ty := .int) dX12_comesTo_164 rfl rfl ?_
      have hk := hk u; rw [← iZ_self v] at hk; exact hk
  | cons s l ih =>
    intro i st ts u t v5 v6 hi hn ht T hl hs hU hk
    obtain ⟨k, v⟩ := s
    rw [List.length_cons] at hi
    obtain ⟨es, ev⟩ := hs 0 (by simp)
    have hs1 : ∀ x, x < l.length → vi h 118 (2 * (i + 1 + x)) = nI (l.getD x (0, 0)).1 ∧ vi h 118 (2 * (i + 1 + x) + 1) = (l.getD x (0, 0)).2 := fun x hx => by
      have := hs (x + 1) (by rw [List.length_cons]; omega)
      rw [show i + (x + 1) = i + 1 + x by omega, List.getD_cons_succ] at this
      exact this
    obtain ⟨V, hV, rfl⟩ := i_eta v
    have es : vi h 118 (2 * i) = nI k := es
    have ev : vi h 118 (2 * i + 1) = iZ V := ev
    rw [← iZ_nat] at es
    have ht : (tyS ts (k, iZ V)).bind (tyR l) = some [true] := ht
    cases hty : tyS ts (k, iZ V) with
    | none => rw [hty] at ht; cases ht
    | some t1 =>
    rw [hty] at ht
    have ht : tyR l t1 = some [true] := ht
    have tt := ty_ev (F := F) hty T hl
    have tl := T.len
    have hk : ∀ u', K (some (.int ((evR F l (evS F (k, iZ V) st)).headD 0))) (setR h 117 u') := hk
    rcases ty_cases hty with ⟨rfl, hv, h1, rfl⟩ | ⟨hk7, h1, rfl⟩ | ⟨rfl, hv, r, rfl, h1, rfl⟩ | ⟨hk8, r, rfl, rfl⟩ | ⟨hk8, r, rfl, rfl⟩ | ⟨rfl, r, rfl, rfl⟩ | ⟨hk8, r, rfl, rfl⟩
    · refine Go_iload (pc' := 7) dX12_comesTo_5 rfl rfl ?_
      refine Go_iload_n (pc' := 8) dX12_comesTo_7 rfl rfl rfl ?_
      refine Go_icmp_geY (tgt := 158) (pc' := 11) dX12_comesTo_8 (by decide) rfl (by first | exact ⟨i_lo _, i_hi _⟩ | omega) (by first | exact ⟨i_lo _, i_hi _⟩ | omega) (fun c8 => by exfalso; omega) (fun c8 => ?_)
      refine Go_aload_n (pc' := 12) dX12_comesTo_11 rfl rfl rfl ?_
      refine Go_getRs (pc' := 15) dX12_comesTo_12 rfl kf_RX12_64 (by decide) (by decide) rfl (S.b 99 rfl rfl) (S.o 99 rfl rfl rfl) (S.r 99 19 rfl rfl rfl) ?_
      refine Go_iconst (v := iZ 2) (pc' := 16) dX12_comesTo_15 rfl (by decide) ?_
      refine Go_iload (pc' := 18) dX12_comesTo_16 rfl rfl ?_
      refine Go_imulZ (pc' := 19) dX12_comesTo_18 rfl ?_
      refine Go_ialoadZ (n := 1220) (k := (2 * i)) (v := (iZ 0)) (pc' := 20) dX12_comesTo_19 rfl (S.b 118 rfl rfl) (S.k 118 rfl rfl rfl) (by omega) (by omega) (by decide) ((viS (by decide)).trans es) ?_
      refine Go_istore (pc' := 22) (lv' := [.ref _, .int _, .int _, .int _, .int _, .int _, _]) dX12_comesTo_20 rfl (Nat.le_of_ble_eq_true rfl) rfl rfl ?_
      refine Go_aload_n (pc' := 23) dX12_comesTo_22 rfl rfl rfl ?_
      refine Go_getRs (pc' := 26) dX12_comesTo_23 rfl kf_RX12_64 (by decide) (by decide) rfl (S.b 99 rfl rfl) (S.o 99 rfl rfl rfl) (S.r 99 19 rfl rfl rfl) ?_
      refine Go_iconst (v := iZ 2) (pc' := 27) dX12_comesTo_26 rfl (by decide) ?_
      refine Go_iload (pc' := 29) dX12_comesTo_27 rfl rfl ?_
      refine Go_imulZ (pc' := 30) dX12_comesTo_29 rfl ?_
      refine Go_iconst (v := iZ 1) (pc' := 31) dX12_comesTo_30 rfl (by decide) ?_
      refine Go_iaddZ (pc' := 32) dX12_comesTo_31 rfl ?_
      refine Go_ialoadZ (n := 1220) (k := (2 * i + 1)) (v := (iZ V)) (pc' := 33) dX12_comesTo_32 rfl (S.b 118 rfl rfl) (S.k 118 rfl rfl rfl) (by omega) (by omega) (by decide) ((viS (by decide)).trans ev) ?_
      refine Go_istore (pc' := 35) (lv' := [.ref _, .int _, .int _, .int _, .int _, .int _, .int _]) dX12_comesTo_33 rfl (Nat.le_of_ble_eq_true rfl) rfl rfl ?_
      refine Go_iload (pc' := 37) dX12_comesTo_35 rfl rfl ?_
      refine Go_bipush (v := iZ 8) (pc' := 39) dX12_comesTo_37 rfl (by decide) ?_
      refine Go_icmp_geY (tgt := 71) (pc' := 42) dX12_comesTo_39 (by decide) rfl (by first | exact ⟨i_lo _, i_hi _⟩ | omega) (by first | exact ⟨i_lo _, i_hi _⟩ | omega) (fun c39 => by exfalso; omega) (fun c39 => ?_)
      refine Go_aload_n (pc' := 43) dX12_comesTo_42 rfl rfl rfl ?_
      refine Go_getRs (pc' := 46) dX12_comesTo_43 rfl kf_RX12_61 (by decide) (by decide) rfl (S.b 99 rfl rfl) (S.o 99 rfl rfl rfl) (S.r 99 18 rfl rfl rfl) ?_
      refine Go_iload_n (pc' := 47) dX12_comesTo_46 rfl rfl rfl ?_
      refine Go_iload (pc' := 49) dX12_comesTo_47 rfl rfl ?_
      refine Go_if_neY (tgt := 57) (pc' := 52) dX12_comesTo_49 (by decide) rfl (by first | exact ⟨i_lo _, i_hi _⟩ | omega) (fun c49 => by exfalso; omega) (fun c49 => ?_)
      refine Go_iload (pc' := 54) dX12_comesTo_52 rfl rfl ?_
      refine Go_goto (tgt := 64) dX12_comesTo_54 (by decide) ?_
      refine Go_iastoreZ (n := 620) (k := (t).toNat) (pc' := 65) dX12_comesTo_64 rfl (S.b 117 rfl rfl) (S.k 117 rfl rfl rfl) (by omega) (by omega) (by decide) ?_
      refine Go_iincZ (pc' := 68) (lv' := [.ref _, .int _, .int _, .int _, .int _, .int _, .int _]) dX12_comesTo_65 rfl rfl (Nat.le_of_ble_eq_true rfl) rfl rfl ?_
      refine Go_goto (tgt := 152) dX12_comesTo_68 (by decide) ?_
      refine Go_iincZ (pc' := 155) (lv' := [.ref _, .int _, .int _, .int _, .int _, .int _, .int _]) dX12_comesTo_152 rfl rfl (Nat.le_of_ble_eq_true rfl) rfl rfl ?_
      refine Go_goto (tgt := 5) dX12_comesTo_155 (by decide) ?_
      rw [setR_wI]
      have et : t.toNat = st.length := by omega
      rw [et]
      rw [ev0] at hk tt
      refine ih (i + 1) _ _ _ (t + 1) _ _ (by omega) (by rw [List.length_cons]; omega) ht tt.1 tt.2 hs1 ?_ hk
      exact hU.push
    · have hF := (hF k hk7.1 hk7.2).trans (iZ_self _).symm
      refine Go_iload (pc' := 7) dX12_comesTo_5 rfl rfl ?_
      refine Go_iload_n (pc' := 8) dX12_comesTo_7 rfl rfl rfl ?_
      refine Go_icmp_geY (tgt := 158) (pc' := 11) dX12_comesTo_8 (by decide) rfl (by first | exact ⟨i_lo _, i_hi _⟩ | omega) (by first | exact ⟨i_lo _, i_hi _⟩ | omega) (fun c8 => by exfalso; omega) (fun c8 => ?_)
      refine Go_aload_n (pc' := 12) dX12_comesTo_11 rfl rfl rfl ?_
      refine Go_getRs (pc' := 15) dX12_comesTo_12 rfl kf_RX12_64 (by decide) (by decide) rfl (S.b 99 rfl rfl) (S.o 99 rfl rfl rfl) (S.r 99 19 rfl rfl rfl) ?_
      refine Go_iconst (v := iZ 2) (pc' := 16) dX12_comesTo_15 rfl (by decide) ?_
      refine Go_iload (pc' := 18) dX12_comesTo_16 rfl rfl ?_
      refine Go_imulZ (pc' := 19) dX12_comesTo_18 rfl ?_
      refine Go_ialoadZ (n := 1220) (k := (2 * i)) (v := (iZ (k : Int))) (pc' := 20) dX12_comesTo_19 rfl (S.b 118 rfl rfl) (S.k 118 rfl rfl rfl) (by omega) (by omega) (by decide) ((viS (by decide)).trans es) ?_
      refine Go_istore (pc' := 22) (lv' := [.ref _, .int _, .int _, .int _, .int _, .int _, _]) dX12_comesTo_20 rfl (Nat.le_of_ble_eq_true rfl) rfl rfl ?_
      refine Go_aload_n (pc' := 23) dX12_comesTo_22 rfl rfl rfl ?_
      refine Go_getRs (pc' := 26) dX12_comesTo_23 rfl kf_RX12_64 (by decide) (by decide) rfl (S.b 99 rfl rfl) (S.o 99 rfl rfl rfl) (S.r 99 19 rfl rfl rfl) ?_
      refine Go_iconst (v := iZ 2) (pc' := 27) dX12_comesTo_26 rfl (by decide) ?_
      refine Go_iload (pc' := 29) dX12_comesTo_27 rfl rfl ?_
      refine Go_imulZ (pc' := 30) dX12_comesTo_29 rfl ?_
      refine Go_iconst (v := iZ 1) (pc' := 31) dX12_comesTo_30 rfl (by decide) ?_
      refine Go_iaddZ (pc' := 32) dX12_comesTo_31 rfl ?_
      refine Go_ialoadZ (n := 1220) (k := (2 * i + 1)) (v := (iZ V)) (pc' := 33) dX12_comesTo_32 rfl (S.b 118 rfl rfl) (S.k 118 rfl rfl rfl) (by omega) (by omega) (by decide) ((viS (by decide)).trans ev) ?_
      refine Go_istore (pc' := 35) (lv' := [.ref _, .int _, .int _, .int _, .int _, .int _, .int _]) dX12_comesTo_33 rfl (Nat.le_of_ble_eq_true rfl) rfl rfl ?_
      refine Go_iload (pc' := 37) dX12_comesTo_35 rfl rfl ?_
      refine Go_bipush (v := iZ 8) (pc' := 39) dX12_comesTo_37 rfl (by decide) ?_
      refine Go_icmp_geY (tgt := 71) (pc' := 42) dX12_comesTo_39 (by decide) rfl (by first | exact ⟨i_lo _, i_hi _⟩ | omega) (by first | exact ⟨i_lo _, i_hi _⟩ | omega) (fun c39 => by exfalso; omega) (fun c39 => ?_)
      refine Go_aload_n (pc' := 43) dX12_comesTo_42 rfl rfl rfl ?_
      refine Go_getRs (pc' := 46) dX12_comesTo_43 rfl kf_RX12_61 (by decide) (by decide) rfl (S.b 99 rfl rfl) (S.o 99 rfl rfl rfl) (S.r 99 18 rfl rfl rfl) ?_
      refine Go_iload_n (pc' := 47) dX12_comesTo_46 rfl rfl rfl ?_
      refine Go_iload (pc' := 49) dX12_comesTo_47 rfl rfl ?_
      refine Go_if_neY (tgt := 57) (pc' := 52) dX12_comesTo_49 (by decide) rfl (by first | exact ⟨i_lo _, i_hi _⟩ | omega) (fun c49 => ?_) (fun c49 => by exfalso; omega)
      refine Go_aload_n (pc' := 58) dX12_comesTo_57 rfl rfl rfl ?_
      refine Go_getRs (pc' := 61) dX12_comesTo_58 rfl kf_RX12_55 (by decide) (by decide) rfl (S.b 99 rfl rfl) (S.o 99 rfl rfl rfl) (S.r 99 16 rfl rfl rfl) ?_
      refine Go_iload (pc' := 63) dX12_comesTo_61 rfl rfl ?_
      refine Go_ialoadZ (n := 8) (k := k) (v := (iZ (F k).toInt)) (pc' := 64) dX12_comesTo_63 rfl (S.b 115 rfl rfl) (S.k 115 rfl rfl rfl) rfl (by omega) (by decide) ((viS (by decide)).trans hF) ?_
      refine Go_iastoreZ (n := 620) (k := (t).toNat) (pc' := 65) dX12_comesTo_64 rfl (S.b 117 rfl rfl) (S.k 117 rfl rfl rfl) (by omega) (by omega) (by decide) ?_
      refine Go_iincZ (pc' := 68) (lv' := [.ref _, .int _, .int _, .int _, .int _, .int _, .int _]) dX12_comesTo_65 rfl rfl (Nat.le_of_ble_eq_true rfl) rfl rfl ?_
      refine Go_goto (tgt := 152) dX12_comesTo_68 (by decide) ?_
      refine Go_iincZ (pc' := 155) (lv' := [.ref _, .int _, .int _, .int _, .int _, .int _, .int _]) dX12_comesTo_152 rfl rfl (Nat.le_of_ble_eq_true rfl) rfl rfl ?_
      refine Go_goto (tgt := 5) dX12_comesTo_155 (by decide) ?_
      rw [setR_wI]
      have et : t.toNat = st.length := by omega
      rw [et, iZ_self]
      rw [ev7 hk7] at hk tt
      refine ih (i + 1) _ _ _ (t + 1) _ _ (by omega) (by rw [List.length_cons]; omega) ht tt.1 tt.2 hs1 ?_ hk
      exact hU.push
    · obtain ⟨a, x, rfl, -, T1⟩ := T.c1
      simp only [List.length_cons] at hn tl hl
      obtain ⟨X, hX, rfl⟩ := i_eta a
      rw [ev11] at hk tt
      refine Go_iload (pc' := 7) dX12_comesTo_5 rfl rfl ?_
      refine Go_iload_n (pc' := 8) dX12_comesTo_7 rfl rfl rfl ?_
      refine Go_icmp_geY (tgt := 158) (pc' := 11) dX12_comesTo_8 (by decide) rfl (by first | exact ⟨i_lo _, i_hi _⟩ | omega) (by first | exact ⟨i_lo _, i_hi _⟩ | omega) (fun c8 => by exfalso; omega) (fun c8 => ?_)
      refine Go_aload_n (pc' := 12) dX12_comesTo_11 rfl rfl rfl ?_
      refine Go_getRs (pc' := 15) dX12_comesTo_12 rfl kf_RX12_64 (by decide) (by decide) rfl (S.b 99 rfl rfl) (S.o 99 rfl rfl rfl) (S.r 99 19 rfl rfl rfl) ?_
      refine Go_iconst (v := iZ 2) (pc' := 16) dX12_comesTo_15 rfl (by decide) ?_
      refine Go_iload (pc' := 18) dX12_comesTo_16 rfl rfl ?_
      refine Go_imulZ (pc' := 19) dX12_comesTo_18 rfl ?_
      refine Go_ialoadZ (n := 1220) (k := (2 * i)) (v := (iZ 11)) (pc' := 20) dX12_comesTo_19 rfl (S.b 118 rfl rfl) (S.k 118 rfl rfl rfl) (by omega) (by omega) (by decide) ((viS (by decide)).trans es) ?_
      refine Go_istore (pc' := 22) (lv' := [.ref _, .int _, .int _, .int _, .int _, .int _, _]) dX12_comesTo_20 rfl (Nat.le_of_ble_eq_true rfl) rfl rfl ?_
      refine Go_aload_n (pc' := 23) dX12_comesTo_22 rfl rfl rfl ?_
      refine Go_getRs (pc' := 26) dX12_comesTo_23 rfl kf_RX12_64 (by decide) (by decide) rfl (S.b 99 rfl rfl) (S.o 99 rfl rfl rfl) (S.r 99 19 rfl rfl rfl) ?_
      refine Go_iconst (v := iZ 2) (pc' := 27) dX12_comesTo_26 rfl (by decide) ?_
      refine Go_iload (pc' := 29) dX12_comesTo_27 rfl rfl ?_
      refine Go_imulZ (pc' := 30) dX12_comesTo_29 rfl ?_
      refine Go_iconst (v := iZ 1) (pc' := 31) dX12_comesTo_30 rfl (by decide) ?_
      refine Go_iaddZ (pc' := 32) dX12_comesTo_31 rfl ?_
      refine Go_ialoadZ (n := 1220) (k := (2 * i + 1)) (v := (iZ V)) (pc' := 33) dX12_comesTo_32 rfl (S.b 118 rfl rfl) (S.k 118 rfl rfl rfl) (by omega) (by omega) (by decide) ((viS (by decide)).trans ev) ?_
      refine Go_istore (pc' := 35) (lv' := [.ref _, .int _, .int _, .int _, .int _, .int _, .int _]) dX12_comesTo_33 rfl (Nat.le_of_ble_eq_true rfl) rfl rfl ?_
      refine Go_iload (pc' := 37) dX12_comesTo_35 rfl rfl ?_
      refine Go_bipush (v := iZ 8) (pc' := 39) dX12_comesTo_37 rfl (by decide) ?_
      refine Go_icmp_geY (tgt := 71) (pc' := 42) dX12_comesTo_39 (by decide) rfl (by first | exact ⟨i_lo _, i_hi _⟩ | omega) (by first | exact ⟨i_lo _, i_hi _⟩ | omega) (fun c39 => ?_) (fun c39 => by exfalso; omega)
      refine Go_iload (pc' := 73) dX12_comesTo_71 rfl rfl ?_
      refine Go_bipush (v := iZ 11) (pc' := 75) dX12_comesTo_73 rfl (by decide) ?_
      refine Go_icmp_neY (tgt := 94) (pc' := 78) dX12_comesTo_75 (by decide) rfl (by first | exact ⟨i_lo _, i_hi _⟩ | omega) (by first | exact ⟨i_lo _, i_hi _⟩ | omega) (fun c75 => by exfalso; omega) (fun c75 => ?_)
      refine Go_aload_n (pc' := 79) dX12_comesTo_78 rfl rfl rfl ?_
      refine Go_getRs (pc' := 82) dX12_comesTo_79 rfl kf_RX12_61 (by decide) (by decide) rfl (S.b 99 rfl rfl) (S.o 99 rfl rfl rfl) (S.r 99 18 rfl rfl rfl) ?_
      refine Go_iload_n (pc' := 83) dX12_comesTo_82 rfl rfl rfl ?_
      refine Go_iconst (v := iZ 1) (pc' := 84) dX12_comesTo_83 rfl (by decide) ?_
      refine Go_isubZ (pc' := 85) dX12_comesTo_84 rfl ?_
      refine Go_dup2 (pc' := 86) dX12_comesTo_85 rfl rfl rfl ?_
      refine Go_ialoadZ (n := 620) (k := ((t - 1)).toNat) (v := (iZ X)) (pc' := 87) dX12_comesTo_86 rfl (S.b 117 rfl rfl) (S.k 117 rfl rfl rfl) (by omega) (by omega) (by decide) (((vi_setR h 117 u _).trans (by rw [show (t - 1).toNat = x.length by omega]; exact hU.top))) ?_
      refine Go_iload (pc' := 89) dX12_comesTo_87 rfl rfl ?_
      refine Go_idiv (pc' := 90) dX12_comesTo_89 rfl (iZ_ne0 (by rw [iZ_t hV] at hv; omega) hV) ?_
      refine Go_iastoreZ (n := 620) (k := ((t - 1)).toNat) (pc' := 91) dX12_comesTo_90 rfl (S.b 117 rfl rfl) (S.k 117 rfl rfl rfl) (by omega) (by omega) (by decide) ?_
      refine Go_goto (tgt := 152) dX12_comesTo_91 (by decide) ?_
      refine Go_iincZ (pc' := 155) (lv' := [.ref _, .int _, .int _, .int _, .int _, .int _, .int _]) dX12_comesTo_152 rfl rfl (Nat.le_of_ble_eq_true rfl) rfl rfl ?_
      refine Go_goto (tgt := 5) dX12_comesTo_155 (by decide) ?_
      rw [setR_wI]
      have et : (t - 1).toNat = x.length := by omega
      rw [et]
      refine ih (i + 1) _ _ _ t _ _ (by omega) (by show t = (((_ :: x : List Int32).length : Nat) : Int); rw [List.length_cons]; omega) ht tt.1 tt.2 hs1 ?_ hk
      exact hU.tl.push
    · obtain ⟨a1, x, rfl, -, T1⟩ := T.c1
      obtain ⟨a2, y, rfl, -, T2⟩ := T1.c1
      simp only [List.length_cons] at hn tl hl
      obtain ⟨Y, hY, rfl⟩ := i_eta a1
      obtain ⟨X, hX, rfl⟩ := i_eta a2
      rw [evb (by omega)] at hk tt
      rcases hk8 with rfl | rfl | rfl
      · refine Go_iload (pc' := 7) dX12_comesTo_5 rfl rfl ?_
        refine Go_iload_n (pc' := 8) dX12_comesTo_7 rfl rfl rfl ?_
        refine Go_icmp_geY (tgt := 158) (pc' := 11) dX12_comesTo_8 (by decide) rfl (by first | exact ⟨i_lo _, i_hi _⟩ | omega) (by first | exact ⟨i_lo _, i_hi _⟩ | omega) (fun c8 => by exfalso; omega) (fun c8 => ?_)
        refine Go_aload_n (pc' := 12) dX12_comesTo_11 rfl rfl rfl ?_
        refine Go_getRs (pc' := 15) dX12_comesTo_12 rfl kf_RX12_64 (by decide) (by decide) rfl (S.b 99 rfl rfl) (S.o 99 rfl rfl rfl) (S.r 99 19 rfl rfl rfl) ?_
        refine Go_iconst (v := iZ 2) (pc' := 16) dX12_comesTo_15 rfl (by decide) ?_
        refine Go_iload (pc' := 18) dX12_comesTo_16 rfl rfl ?_
        refine Go_imulZ (pc' := 19) dX12_comesTo_18 rfl ?_
        refine Go_ialoadZ (n := 1220) (k := (2 * i)) (v := (iZ 8)) (pc' := 20) dX12_comesTo_19 rfl (S.b 118 rfl rfl) (S.k 118 rfl rfl rfl) (by omega) (by omega) (by decide) ((viS (by decide)).trans es) ?_
        refine Go_istore (pc' := 22) (lv' := [.ref _, .int _, .int _, .int _, .int _, .int _, _]) dX12_comesTo_20 rfl (Nat.le_of_ble_eq_true rfl) rfl rfl ?_
        refine Go_aload_n (pc' := 23) dX12_comesTo_22 rfl rfl rfl ?_
        refine Go_getRs (pc' := 26) dX12_comesTo_23 rfl kf_RX12_64 (by decide) (by decide) rfl (S.b 99 rfl rfl) (S.o 99 rfl rfl rfl) (S.r 99 19 rfl rfl rfl) ?_
        refine Go_iconst (v := iZ 2) (pc' := 27) dX12_comesTo_26 rfl (by decide) ?_
        refine Go_iload (pc' := 29) dX12_comesTo_27 rfl rfl ?_
        refine Go_imulZ (pc' := 30) dX12_comesTo_29 rfl ?_
        refine Go_iconst (v := iZ 1) (pc' := 31) dX12_comesTo_30 rfl (by decide) ?_
        refine Go_iaddZ (pc' := 32) dX12_comesTo_31 rfl ?_
        refine Go_ialoadZ (n := 1220) (k := (2 * i + 1)) (v := (iZ V)) (pc' := 33) dX12_comesTo_32 rfl (S.b 118 rfl rfl) (S.k 118 rfl rfl rfl) (by omega) (by omega) (by decide) ((viS (by decide)).trans ev) ?_
        refine Go_istore (pc' := 35) (lv' := [.ref _, .int _, .int _, .int _, .int _, .int _, .int _]) dX12_comesTo_33 rfl (Nat.le_of_ble_eq_true rfl) rfl rfl ?_
        refine Go_iload (pc' := 37) dX12_comesTo_35 rfl rfl ?_
        refine Go_bipush (v := iZ 8) (pc' := 39) dX12_comesTo_37 rfl (by decide) ?_
        refine Go_icmp_geY (tgt := 71) (pc' := 42) dX12_comesTo_39 (by decide) rfl (by first | exact ⟨i_lo _, i_hi _⟩ | omega) (by first | exact ⟨i_lo _, i_hi _⟩ | omega) (fun c39 => ?_) (fun c39 => by exfalso; omega)
        refine Go_iload (pc' := 73) dX12_comesTo_71 rfl rfl ?_
        refine Go_bipush (v := iZ 11) (pc' := 75) dX12_comesTo_73 rfl (by decide) ?_
        refine Go_icmp_neY (tgt := 94) (pc' := 78) dX12_comesTo_75 (by decide) rfl (by first | exact ⟨i_lo _, i_hi _⟩ | omega) (by first | exact ⟨i_lo _, i_hi _⟩ | omega) (fun c75 => ?_) (fun c75 => by exfalso; omega)
        refine Go_iload (pc' := 96) dX12_comesTo_94 rfl rfl ?_
        refine Go_bipush (v := iZ 15) (pc' := 98) dX12_comesTo_96 rfl (by decide) ?_
        refine Go_icmp_neY (tgt := 122) (pc' := 101) dX12_comesTo_98 (by decide) rfl (by first | exact ⟨i_lo _, i_hi _⟩ | omega) (by first | exact ⟨i_lo _, i_hi _⟩ | omega) (fun c98 => ?_) (fun c98 => by exfalso; omega)
        refine Go_iincZ (pc' := 125) (lv' := [.ref _, .int _, .int _, .int _, .int _, .int _, .int _]) dX12_comesTo_122 rfl rfl (Nat.le_of_ble_eq_true rfl) rfl rfl ?_
        refine Go_aload_n (pc' := 126) dX12_comesTo_125 rfl rfl rfl ?_
        refine Go_getRs (pc' := 129) dX12_comesTo_126 rfl kf_RX12_61 (by decide) (by decide) rfl (S.b 99 rfl rfl) (S.o 99 rfl rfl rfl) (S.r 99 18 rfl rfl rfl) ?_
        refine Go_iload_n (pc' := 130) dX12_comesTo_129 rfl rfl rfl ?_
        refine Go_iconst (v := iZ 1) (pc' := 131) dX12_comesTo_130 rfl (by decide) ?_
        refine Go_isubZ (pc' := 132) dX12_comesTo_131 rfl ?_
        refine Go_iload (pc' := 134) dX12_comesTo_132 rfl rfl ?_
        refine Go_aload_n (pc' := 135) dX12_comesTo_134 rfl rfl rfl ?_
        refine Go_getRs (pc' := 138) dX12_comesTo_135 rfl kf_RX12_61 (by decide) (by decide) rfl (S.b 99 rfl rfl) (S.o 99 rfl rfl rfl) (S.r 99 18 rfl rfl rfl) ?_
        refine Go_iload_n (pc' := 139) dX12_comesTo_138 rfl rfl rfl ?_
        refine Go_iconst (v := iZ 1) (pc' := 140) dX12_comesTo_139 rfl (by decide) ?_
        refine Go_isubZ (pc' := 141) dX12_comesTo_140 rfl ?_
        refine Go_ialoadZ (n := 620) (k := (((t + (-1)) - 1)).toNat) (v := (iZ X)) (pc' := 142) dX12_comesTo_141 rfl (S.b 117 rfl rfl) (S.k 117 rfl rfl rfl) (by omega) (by omega) (by decide) (((vi_setR h 117 u _).trans (by rw [show (t + (-1) - 1).toNat = y.length by omega]; exact hU.tl.top))) ?_
        refine Go_aload_n (pc' := 143) dX12_comesTo_142 rfl rfl rfl ?_
        refine Go_getRs (pc' := 146) dX12_comesTo_143 rfl kf_RX12_61 (by decide) (by decide) rfl (S.b 99 rfl rfl) (S.o 99 rfl rfl rfl) (S.r 99 18 rfl rfl rfl) ?_
        refine Go_iload_n (pc' := 147) dX12_comesTo_146 rfl rfl rfl ?_
        refine Go_ialoadZ (n := 620) (k := ((t + (-1))).toNat) (v := (iZ Y)) (pc' := 148) dX12_comesTo_147 rfl (S.b 117 rfl rfl) (S.k 117 rfl rfl rfl) (by omega) (by omega) (by decide) (((vi_setR h 117 u _).trans (by rw [show (t + (-1)).toNat = y.length + 1 by omega]; exact hU.top))) ?_
        refine Go_callS_i (pc' := 151) (As := [.int _, .int _, .int _]) (st := [.int _, .ref _]) dX12_comesTo_148 rfl ok_X12_both km_RX12_329 rfl (Nat.le_of_ble_eq_true rfl) rfl rfl rfl (Nat.le_of_ble_eq_true rfl) (Nat.lt_succ_self _) ?_
        refine s_both8 ?_
        refine ⟨_, rfl, ?_⟩
        refine Go_iastoreZ (n := 620) (k := (((t + (-1)) - 1)).toNat) (pc' := 152) dX12_comesTo_151 rfl (S.b 117 rfl rfl) (S.k 117 rfl rfl rfl) (by omega) (by omega) (by decide) ?_
        refine Go_iincZ (pc' := 155) (lv' := [.ref _, .int _, .int _, .int _, .int _, .int _, .int _]) dX12_comesTo_152 rfl rfl (Nat.le_of_ble_eq_true rfl) rfl rfl ?_
        refine Go_goto (tgt := 5) dX12_comesTo_155 (by decide) ?_
        rw [setR_wI]
        have et : (t + (-1) - 1).toNat = y.length := by omega
        rw [et]
        refine ih (i + 1) _ _ _ (t + (-1)) _ _ (by omega) (by rw [List.length_cons]; omega) ht tt.1 tt.2 hs1 ?_ hk
        exact hU.tl.tl.push
      · refine Go_iload (pc' := 7) dX12_comesTo_5 rfl rfl ?_
        refine Go_iload_n (pc' := 8) dX12_comesTo_7 rfl rfl rfl ?_
        refine Go_icmp_geY (tgt := 158) (pc' := 11) dX12_comesTo_8 (by decide) rfl (by first | exact ⟨i_lo _, i_hi _⟩ | omega) (by first | exact ⟨i_lo _, i_hi _⟩ | omega) (fun c8 => by exfalso; omega) (fun c8 => ?_)
        refine Go_aload_n (pc' := 12) dX12_comesTo_11 rfl rfl rfl ?_
        refine Go_getRs (pc' := 15) dX12_comesTo_12 rfl kf_RX12_64 (by decide) (by decide) rfl (S.b 99 rfl rfl) (S.o 99 rfl rfl rfl) (S.r 99 19 rfl rfl rfl) ?_
        refine Go_iconst (v := iZ 2) (pc' := 16) dX12_comesTo_15 rfl (by decide) ?_
        refine Go_iload (pc' := 18) dX12_comesTo_16 rfl rfl ?_
        refine Go_imulZ (pc' := 19) dX12_comesTo_18 rfl ?_
        refine Go_ialoadZ (n := 1220) (k := (2 * i)) (v := (iZ 9)) (pc' := 20) dX12_comesTo_19 rfl (S.b 118 rfl rfl) (S.k 118 rfl rfl rfl) (by omega) (by omega) (by decide) ((viS (by decide)).trans es) ?_
        refine Go_istore (pc' := 22) (lv' := [.ref _, .int _, .int _, .int _, .int _, .int _, _]) dX12_comesTo_20 rfl (Nat.le_of_ble_eq_true rfl) rfl rfl ?_
        refine Go_aload_n (pc' := 23) dX12_comesTo_22 rfl rfl rfl ?_
        refine Go_getRs (pc' := 26) dX12_comesTo_23 rfl kf_RX12_64 (by decide) (by decide) rfl (S.b 99 rfl rfl) (S.o 99 rfl rfl rfl) (S.r 99 19 rfl rfl rfl) ?_
        refine Go_iconst (v := iZ 2) (pc' := 27) dX12_comesTo_26 rfl (by decide) ?_
        refine Go_iload (pc' := 29) dX12_comesTo_27 rfl rfl ?_
        refine Go_imulZ (pc' := 30) dX12_comesTo_29 rfl ?_
        refine Go_iconst (v := iZ 1) (pc' := 31) dX12_comesTo_30 rfl (by decide) ?_
        refine Go_iaddZ (pc' := 32) dX12_comesTo_31 rfl ?_
        refine Go_ialoadZ (n := 1220) (k := (2 * i + 1)) (v := (iZ V)) (pc' := 33) dX12_comesTo_32 rfl (S.b 118 rfl rfl) (S.k 118 rfl rfl rfl) (by omega) (by omega) (by decide) ((viS (by decide)).trans ev) ?_
        refine Go_istore (pc' := 35) (lv' := [.ref _, .int _, .int _, .int _, .int _, .int _, .int _]) dX12_comesTo_33 rfl (Nat.le_of_ble_eq_true rfl) rfl rfl ?_
        refine Go_iload (pc' := 37) dX12_comesTo_35 rfl rfl ?_
        refine Go_bipush (v := iZ 8) (pc' := 39) dX12_comesTo_37 rfl (by decide) ?_
        refine Go_icmp_geY (tgt := 71) (pc' := 42) dX12_comesTo_39 (by decide) rfl (by first | exact ⟨i_lo _, i_hi _⟩ | omega) (by first | exact ⟨i_lo _, i_hi _⟩ | omega) (fun c39 => ?_) (fun c39 => by exfalso; omega)
        refine Go_iload (pc' := 73) dX12_comesTo_71 rfl rfl ?_
        refine Go_bipush (v := iZ 11) (pc' := 75) dX12_comesTo_73 rfl (by decide) ?_
        refine Go_icmp_neY (tgt := 94) (pc' := 78) dX12_comesTo_75 (by decide) rfl (by first | exact ⟨i_lo _, i_hi _⟩ | omega) (by first | exact ⟨i_lo _, i_hi _⟩ | omega) (fun c75 => ?_) (fun c75 => by exfalso; omega)
        refine Go_iload (pc' := 96) dX12_comesTo_94 rfl rfl ?_
        refine Go_bipush (v := iZ 15) (pc' := 98) dX12_comesTo_96 rfl (by decide) ?_
        refine Go_icmp_neY (tgt := 122) (pc' := 101) dX12_comesTo_98 (by decide) rfl (by first | exact ⟨i_lo _, i_hi _⟩ | omega) (by first | exact ⟨i_lo _, i_hi _⟩ | omega) (fun c98 => ?_) (fun c98 => by exfalso; omega)
        refine Go_iincZ (pc' := 125) (lv' := [.ref _, .int _, .int _, .int _, .int _, .int _, .int _]) dX12_comesTo_122 rfl rfl (Nat.le_of_ble_eq_true rfl) rfl rfl ?_
        refine Go_aload_n (pc' := 126) dX12_comesTo_125 rfl rfl rfl ?_
        refine Go_getRs (pc' := 129) dX12_comesTo_126 rfl kf_RX12_61 (by decide) (by decide) rfl (S.b 99 rfl rfl) (S.o 99 rfl rfl rfl) (S.r 99 18 rfl rfl rfl) ?_
        refine Go_iload_n (pc' := 130) dX12_comesTo_129 rfl rfl rfl ?_
        refine Go_iconst (v := iZ 1) (pc' := 131) dX12_comesTo_130 rfl (by decide) ?_
        refine Go_isubZ (pc' := 132) dX12_comesTo_131 rfl ?_
        refine Go_iload (pc' := 134) dX12_comesTo_132 rfl rfl ?_
        refine Go_aload_n (pc' := 135) dX12_comesTo_134 rfl rfl rfl ?_
        refine Go_getRs (pc' := 138) dX12_comesTo_135 rfl kf_RX12_61 (by decide) (by decide) rfl (S.b 99 rfl rfl) (S.o 99 rfl rfl rfl) (S.r 99 18 rfl rfl rfl) ?_
        refine Go_iload_n (pc' := 139) dX12_comesTo_138 rfl rfl rfl ?_
        refine Go_iconst (v := iZ 1) (pc' := 140) dX12_comesTo_139 rfl (by decide) ?_
        refine Go_isubZ (pc' := 141) dX12_comesTo_140 rfl ?_
        refine Go_ialoadZ (n := 620) (k := (((t + (-1)) - 1)).toNat) (v := (iZ X)) (pc' := 142) dX12_comesTo_141 rfl (S.b 117 rfl rfl) (S.k 117 rfl rfl rfl) (by omega) (by omega) (by decide) (((vi_setR h 117 u _).trans (by rw [show (t + (-1) - 1).toNat = y.length by omega]; exact hU.tl.top))) ?_
        refine Go_aload_n (pc' := 143) dX12_comesTo_142 rfl rfl rfl ?_
        refine Go_getRs (pc' := 146) dX12_comesTo_143 rfl kf_RX12_61 (by decide) (by decide) rfl (S.b 99 rfl rfl) (S.o 99 rfl rfl rfl) (S.r 99 18 rfl rfl rfl) ?_
        refine Go_iload_n (pc' := 147) dX12_comesTo_146 rfl rfl rfl ?_
        refine Go_ialoadZ (n := 620) (k := ((t + (-1))).toNat) (v := (iZ Y)) (pc' := 148) dX12_comesTo_147 rfl (S.b 117 rfl rfl) (S.k 117 rfl rfl rfl) (by omega) (by omega) (by decide) (((vi_setR h 117 u _).trans (by rw [show (t + (-1)).toNat = y.length + 1 by omega]; exact hU.top))) ?_
        refine Go_callS_i (pc' := 151) (As := [.int _, .int _, .int _]) (st := [.int _, .ref _]) dX12_comesTo_148 rfl ok_X12_both km_RX12_329 rfl (Nat.le_of_ble_eq_true rfl) rfl rfl rfl (Nat.le_of_ble_eq_true rfl) (Nat.lt_succ_self _) ?_
        refine s_both9 ?_
        refine ⟨_, rfl, ?_⟩
        refine Go_iastoreZ (n := 620) (k := (((t + (-1)) - 1)).toNat) (pc' := 152) dX12_comesTo_151 rfl (S.b 117 rfl rfl) (S.k 117 rfl rfl rfl) (by omega) (by omega) (by decide) ?_
        refine Go_iincZ (pc' := 155) (lv' := [.ref _, .int _, .int _, .int _, .int _, .int _, .int _]) dX12_comesTo_152 rfl rfl (Nat.le_of_ble_eq_true rfl) rfl rfl ?_
        refine Go_goto (tgt := 5) dX12_comesTo_155 (by decide) ?_
        rw [setR_wI]
        have et : (t + (-1) - 1).toNat = y.length := by omega
        rw [et]
        refine ih (i + 1) _ _ _ (t + (-1)) _ _ (by omega) (by rw [List.length_cons]; omega) ht tt.1 tt.2 hs1 ?_ hk
        exact hU.tl.tl.push
      · refine Go_iload (pc' := 7) dX12_comesTo_5 rfl rfl ?_
        refine Go_iload_n (pc' := 8) dX12_comesTo_7 rfl rfl rfl ?_
        refine Go_icmp_geY (tgt := 158) (pc' := 11) dX12_comesTo_8 (by decide) rfl (by first | exact ⟨i_lo _, i_hi _⟩ | omega) (by first | exact ⟨i_lo _, i_hi _⟩ | omega) (fun c8 => by exfalso; omega) (fun c8 => ?_)
        refine Go_aload_n (pc' := 12) dX12_comesTo_11 rfl rfl rfl ?_
        refine Go_getRs (pc' := 15) dX12_comesTo_12 rfl kf_RX12_64 (by decide) (by decide) rfl (S.b 99 rfl rfl) (S.o 99 rfl rfl rfl) (S.r 99 19 rfl rfl rfl) ?_
        refine Go_iconst (v := iZ 2) (pc' := 16) dX12_comesTo_15 rfl (by decide) ?_
        refine Go_iload (pc' := 18) dX12_comesTo_16 rfl rfl ?_
        refine Go_imulZ (pc' := 19) dX12_comesTo_18 rfl ?_
        refine Go_ialoadZ (n := 1220) (k := (2 * i)) (v := (iZ 10)) (pc' := 20) dX12_comesTo_19 rfl (S.b 118 rfl rfl) (S.k 118 rfl rfl rfl) (by omega) (by omega) (by decide) ((viS (by decide)).trans es) ?_
        refine Go_istore (pc' := 22) (lv' := [.ref _, .int _, .int _, .int _, .int _, .int _, _]) dX12_comesTo_20 rfl (Nat.le_of_ble_eq_true rfl) rfl rfl ?_
        refine Go_aload_n (pc' := 23) dX12_comesTo_22 rfl rfl rfl ?_
        refine Go_getRs (pc' := 26) dX12_comesTo_23 rfl kf_RX12_64 (by decide) (by decide) rfl (S.b 99 rfl rfl) (S.o 99 rfl rfl rfl) (S.r 99 19 rfl rfl rfl) ?_
        refine Go_iconst (v := iZ 2) (pc' := 27) dX12_comesTo_26 rfl (by decide) ?_
        refine Go_iload (pc' := 29) dX12_comesTo_27 rfl rfl ?_
        refine Go_imulZ (pc' := 30) dX12_comesTo_29 rfl ?_
        refine Go_iconst (v := iZ 1) (pc' := 31) dX12_comesTo_30 rfl (by decide) ?_
        refine Go_iaddZ (pc' := 32) dX12_comesTo_31 rfl ?_
        refine Go_ialoadZ (n := 1220) (k := (2 * i + 1)) (v := (iZ V)) (pc' := 33) dX12_comesTo_32 rfl (S.b 118 rfl rfl) (S.k 118 rfl rfl rfl) (by omega) (by omega) (by decide) ((viS (by decide)).trans ev) ?_
        refine Go_istore (pc' := 35) (lv' := [.ref _, .int _, .int _, .int _, .int _, .int _, .int _]) dX12_comesTo_33 rfl (Nat.le_of_ble_eq_true rfl) rfl rfl ?_
        refine Go_iload (pc' := 37) dX12_comesTo_35 rfl rfl ?_
        refine Go_bipush (v := iZ 8) (pc' := 39) dX12_comesTo_37 rfl (by decide) ?_
        refine Go_icmp_geY (tgt := 71) (pc' := 42) dX12_comesTo_39 (by decide) rfl (by first | exact ⟨i_lo _, i_hi _⟩ | omega) (by first | exact ⟨i_lo _, i_hi _⟩ | omega) (fun c39 => ?_) (fun c39 => by exfalso; omega)
        refine Go_iload (pc' := 73) dX12_comesTo_71 rfl rfl ?_
        refine Go_bipush (v := iZ 11) (pc' := 75) dX12_comesTo_73 rfl (by decide) ?_
        refine Go_icmp_neY (tgt := 94) (pc' := 78) dX12_comesTo_75 (by decide) rfl (by first | exact ⟨i_lo _, i_hi _⟩ | omega) (by first | exact ⟨i_lo _, i_hi _⟩ | omega) (fun c75 => ?_) (fun c75 => by exfalso; omega)
        refine Go_iload (pc' := 96) dX12_comesTo_94 rfl rfl ?_
        refine Go_bipush (v := iZ 15) (pc' := 98) dX12_comesTo_96 rfl (by decide) ?_
        refine Go_icmp_neY (tgt := 122) (pc' := 101) dX12_comesTo_98 (by decide) rfl (by first | exact ⟨i_lo _, i_hi _⟩ | omega) (by first | exact ⟨i_lo _, i_hi _⟩ | omega) (fun c98 => ?_) (fun c98 => by exfalso; omega)
        refine Go_iincZ (pc' := 125) (lv' := [.ref _, .int _, .int _, .int _, .int _, .int _, .int _]) dX12_comesTo_122 rfl rfl (Nat.le_of_ble_eq_true rfl) rfl rfl ?_
        refine Go_aload_n (pc' := 126) dX12_comesTo_125 rfl rfl rfl ?_
        refine Go_getRs (pc' := 129) dX12_comesTo_126 rfl kf_RX12_61 (by decide) (by decide) rfl (S.b 99 rfl rfl) (S.o 99 rfl rfl rfl) (S.r 99 18 rfl rfl rfl) ?_
        refine Go_iload_n (pc' := 130) dX12_comesTo_129 rfl rfl rfl ?_
        refine Go_iconst (v := iZ 1) (pc' := 131) dX12_comesTo_130 rfl (by decide) ?_
        refine Go_isubZ (pc' := 132) dX12_comesTo_131 rfl ?_
        refine Go_iload (pc' := 134) dX12_comesTo_132 rfl rfl ?_
        refine Go_aload_n (pc' := 135) dX12_comesTo_134 rfl rfl rfl ?_
        refine Go_getRs (pc' := 138) dX12_comesTo_135 rfl kf_RX12_61 (by decide) (by decide) rfl (S.b 99 rfl rfl) (S.o 99 rfl rfl rfl) (S.r 99 18 rfl rfl rfl) ?_
        refine Go_iload_n (pc' := 139) dX12_comesTo_138 rfl rfl rfl ?_
        refine Go_iconst (v := iZ 1) (pc' := 140) dX12_comesTo_139 rfl (by decide) ?_
        refine Go_isubZ (pc' := 141) dX12_comesTo_140 rfl ?_
        refine Go_ialoadZ (n := 620) (k := (((t + (-1)) - 1)).toNat) (v := (iZ X)) (pc' := 142) dX12_comesTo_141 rfl (S.b 117 rfl rfl) (S.k 117 rfl rfl rfl) (by omega) (by omega) (by decide) (((vi_setR h 117 u _).trans (by rw [show (t + (-1) - 1).toNat = y.length by omega]; exact hU.tl.top))) ?_
        refine Go_aload_n (pc' := 143) dX12_comesTo_142 rfl rfl rfl ?_
        refine Go_getRs (pc' := 146) dX12_comesTo_143 rfl kf_RX12_61 (by decide) (by decide) rfl (S.b 99 rfl rfl) (S.o 99 rfl rfl rfl) (S.r 99 18 rfl rfl rfl) ?_
        refine Go_iload_n (pc' := 147) dX12_comesTo_146 rfl rfl rfl ?_
        refine Go_ialoadZ (n := 620) (k := ((t + (-1))).toNat) (v := (iZ Y)) (pc' := 148) dX12_comesTo_147 rfl (S.b 117 rfl rfl) (S.k 117 rfl rfl rfl) (by omega) (by omega) (by decide) (((vi_setR h 117 u _).trans (by rw [show (t + (-1)).toNat = y.length + 1 by omega]; exact hU.top))) ?_
        refine Go_callS_i (pc' := 151) (As := [.int _, .int _, .int _]) (st := [.int _, .ref _]) dX12_comesTo_148 rfl ok_X12_both km_RX12_329 rfl (Nat.le_of_ble_eq_true rfl) rfl rfl rfl (Nat.le_of_ble_eq_true rfl) (Nat.lt_succ_self _) ?_
        refine s_both10 ?_
        refine ⟨_, rfl, ?_⟩
        refine Go_iastoreZ (n := 620) (k := (((t + (-1)) - 1)).toNat) (pc' := 152) dX12_comesTo_151 rfl (S.b 117 rfl rfl) (S.k 117 rfl rfl rfl) (by omega) (by omega) (by decide) ?_
        refine Go_iincZ (pc' := 155) (lv' := [.ref _, .int _, .int _, .int _, .int _, .int _, .int _]) dX12_comesTo_152 rfl rfl (Nat.le_of_ble_eq_true rfl) rfl rfl ?_
        refine Go_goto (tgt := 5) dX12_comesTo_155 (by decide) ?_
        rw [setR_wI]
        have et : (t + (-1) - 1).toNat = y.length := by omega
        rw [et]
        refine ih (i + 1) _ _ _ (t + (-1)) _ _ (by omega) (by rw [List.length_cons]; omega) ht tt.1 tt.2 hs1 ?_ hk
        exact hU.tl.tl.push
    · obtain ⟨a1, x, rfl, -, T1⟩ := T.c1
      obtain ⟨a2, y, rfl, -, T2⟩ := T1.c1
      simp only [List.length_cons] at hn tl hl
      obtain ⟨Y, hY, rfl⟩ := i_eta a1
      obtain ⟨X, hX, rfl⟩ := i_eta a2
      rw [evb (by omega)] at hk tt
      rcases hk8 with rfl | rfl | rfl
      · refine Go_iload (pc' := 7) dX12_comesTo_5 rfl rfl ?_
        refine Go_iload_n (pc' := 8) dX12_comesTo_7 rfl rfl rfl ?_
        refine Go_icmp_geY (tgt := 158) (pc' := 11) dX12_comesTo_8 (by decide) rfl (by first | exact ⟨i_lo _, i_hi _⟩ | omega) (by first | exact ⟨i_lo _, i_hi _⟩ | omega) (fun c8 => by exfalso; omega) (fun c8 => ?_)
        refine Go_aload_n (pc' := 12) dX12_comesTo_11 rfl rfl rfl ?_
        refine Go_getRs (pc' := 15) dX12_comesTo_12 rfl kf_RX12_64 (by decide) (by decide) rfl (S.b 99 rfl rfl) (S.o 99 rfl rfl rfl) (S.r 99 19 rfl rfl rfl) ?_
        refine Go_iconst (v := iZ 2) (pc' := 16) dX12_comesTo_15 rfl (by decide) ?_
        refine Go_iload (pc' := 18) dX12_comesTo_16 rfl rfl ?_
        refine Go_imulZ (pc' := 19) dX12_comesTo_18 rfl ?_
        refine Go_ialoadZ (n := 1220) (k := (2 * i)) (v := (iZ 12)) (pc' := 20) dX12_comesTo_19 rfl (S.b 118 rfl rfl) (S.k 118 rfl rfl rfl) (by omega) (by omega) (by decide) ((viS (by decide)).trans es) ?_
        refine Go_istore (pc' := 22) (lv' := [.ref _, .int _, .int _, .int _, .int _, .int _, _]) dX12_comesTo_20 rfl (Nat.le_of_ble_eq_true rfl) rfl rfl ?_
        refine Go_aload_n (pc' := 23) dX12_comesTo_22 rfl rfl rfl ?_
        refine Go_getRs (pc' := 26) dX12_comesTo_23 rfl kf_RX12_64 (by decide) (by decide) rfl (S.b 99 rfl rfl) (S.o 99 rfl rfl rfl) (S.r 99 19 rfl rfl rfl) ?_
        refine Go_iconst (v := iZ 2) (pc' := 27) dX12_comesTo_26 rfl (by decide) ?_
        refine Go_iload (pc' := 29) dX12_comesTo_27 rfl rfl ?_
        refine Go_imulZ (pc' := 30) dX12_comesTo_29 rfl ?_
        refine Go_iconst (v := iZ 1) (pc' := 31) dX12_comesTo_30 rfl (by decide) ?_
        refine Go_iaddZ (pc' := 32) dX12_comesTo_31 rfl ?_
        refine Go_ialoadZ (n := 1220) (k := (2 * i + 1)) (v := (iZ V)) (pc' := 33) dX12_comesTo_32 rfl (S.b 118 rfl rfl) (S.k 118 rfl rfl rfl) (by omega) (by omega) (by decide) ((viS (by decide)).trans ev) ?_
        refine Go_istore (pc' := 35) (lv' := [.ref _, .int _, .int _, .int _, .int _, .int _, .int _]) dX12_comesTo_33 rfl (Nat.le_of_ble_eq_true rfl) rfl rfl ?_
        refine Go_iload (pc' := 37) dX12_comesTo_35 rfl rfl ?_
        refine Go_bipush (v := iZ 8) (pc' := 39) dX12_comesTo_37 rfl (by decide) ?_
        refine Go_icmp_geY (tgt := 71) (pc' := 42) dX12_comesTo_39 (by decide) rfl (by first | exact ⟨i_lo _, i_hi _⟩ | omega) (by first | exact ⟨i_lo _, i_hi _⟩ | omega) (fun c39 => ?_) (fun c39 => by exfalso; omega)
        refine Go_iload (pc' := 73) dX12_comesTo_71 rfl rfl ?_
        refine Go_bipush (v := iZ 11) (pc' := 75) dX12_comesTo_73 rfl (by decide) ?_
        refine Go_icmp_neY (tgt := 94) (pc' := 78) dX12_comesTo_75 (by decide) rfl (by first | exact ⟨i_lo _, i_hi _⟩ | omega) (by first | exact ⟨i_lo _, i_hi _⟩ | omega) (fun c75 => ?_) (fun c75 => by exfalso; omega)
        refine Go_iload (pc' := 96) dX12_comesTo_94 rfl rfl ?_
        refine Go_bipush (v := iZ 15) (pc' := 98) dX12_comesTo_96 rfl (by decide) ?_
        refine Go_icmp_neY (tgt := 122) (pc' := 101) dX12_comesTo_98 (by decide) rfl (by first | exact ⟨i_lo _, i_hi _⟩ | omega) (by first | exact ⟨i_lo _, i_hi _⟩ | omega) (fun c98 => ?_) (fun c98 => by exfalso; omega)
        refine Go_iincZ (pc' := 125) (lv' := [.ref _, .int _, .int _, .int _, .int _, .int _, .int _]) dX12_comesTo_122 rfl rfl (Nat.le_of_ble_eq_true rfl) rfl rfl ?_
        refine Go_aload_n (pc' := 126) dX12_comesTo_125 rfl rfl rfl ?_
        refine Go_getRs (pc' := 129) dX12_comesTo_126 rfl kf_RX12_61 (by decide) (by decide) rfl (S.b 99 rfl rfl) (S.o 99 rfl rfl rfl) (S.r 99 18 rfl rfl rfl) ?_
        refine Go_iload_n (pc' := 130) dX12_comesTo_129 rfl rfl rfl ?_
        refine Go_iconst (v := iZ 1) (pc' := 131) dX12_comesTo_130 rfl (by decide) ?_
        refine Go_isubZ (pc' := 132) dX12_comesTo_131 rfl ?_
        refine Go_iload (pc' := 134) dX12_comesTo_132 rfl rfl ?_
        refine Go_aload_n (pc' := 135) dX12_comesTo_134 rfl rfl rfl ?_
        refine Go_getRs (pc' := 138) dX12_comesTo_135 rfl kf_RX12_61 (by decide) (by decide) rfl (S.b 99 rfl rfl) (S.o 99 rfl rfl rfl) (S.r 99 18 rfl rfl rfl) ?_
        refine Go_iload_n (pc' := 139) dX12_comesTo_138 rfl rfl rfl ?_
        refine Go_iconst (v := iZ 1) (pc' := 140) dX12_comesTo_139 rfl (by decide) ?_
        refine Go_isubZ (pc' := 141) dX12_comesTo_140 rfl ?_
        refine Go_ialoadZ (n := 620) (k := (((t + (-1)) - 1)).toNat) (v := (iZ X)) (pc' := 142) dX12_comesTo_141 rfl (S.b 117 rfl rfl) (S.k 117 rfl rfl rfl) (by omega) (by omega) (by decide) (((vi_setR h 117 u _).trans (by rw [show (t + (-1) - 1).toNat = y.length by omega]; exact hU.tl.top))) ?_
        refine Go_aload_n (pc' := 143) dX12_comesTo_142 rfl rfl rfl ?_
        refine Go_getRs (pc' := 146) dX12_comesTo_143 rfl kf_RX12_61 (by decide) (by decide) rfl (S.b 99 rfl rfl) (S.o 99 rfl rfl rfl) (S.r 99 18 rfl rfl rfl) ?_
        refine Go_iload_n (pc' := 147) dX12_comesTo_146 rfl rfl rfl ?_
        refine Go_ialoadZ (n := 620) (k := ((t + (-1))).toNat) (v := (iZ Y)) (pc' := 148) dX12_comesTo_147 rfl (S.b 117 rfl rfl) (S.k 117 rfl rfl rfl) (by omega) (by omega) (by decide) (((vi_setR h 117 u _).trans (by rw [show (t + (-1)).toNat = y.length + 1 by omega]; exact hU.top))) ?_
        refine Go_callS_i (pc' := 151) (As := [.int _, .int _, .int _]) (st := [.int _, .ref _]) dX12_comesTo_148 rfl ok_X12_both km_RX12_329 rfl (Nat.le_of_ble_eq_true rfl) rfl rfl rfl (Nat.le_of_ble_eq_true rfl) (Nat.lt_succ_self _) ?_
        refine s_both12 ?_
        refine ⟨_, rfl, ?_⟩
        refine Go_iastoreZ (n := 620) (k := (((t + (-1)) - 1)).toNat) (pc' := 152) dX12_comesTo_151 rfl (S.b 117 rfl rfl) (S.k 117 rfl rfl rfl) (by omega) (by omega) (by decide) ?_
        refine Go_iincZ (pc' := 155) (lv' := [.ref _, .int _, .int _, .int _, .int _, .int _, .int _]) dX12_comesTo_152 rfl rfl (Nat.le_of_ble_eq_true rfl) rfl rfl ?_
        refine Go_goto (tgt := 5) dX12_comesTo_155 (by decide) ?_
        rw [setR_wI]
        have et : (t + (-1) - 1).toNat = y.length := by omega
        rw [et]
        refine ih (i + 1) _ _ _ (t + (-1)) _ _ (by omega) (by rw [List.length_cons]; omega) ht tt.1 tt.2 hs1 ?_ hk
        exact hU.tl.tl.push
      · refine Go_iload (pc' := 7) dX12_comesTo_5 rfl rfl ?_
        refine Go_iload_n (pc' := 8) dX12_comesTo_7 rfl rfl rfl ?_
        refine Go_icmp_geY (tgt := 158) (pc' := 11) dX12_comesTo_8 (by decide) rfl (by first | exact ⟨i_lo _, i_hi _⟩ | omega) (by first | exact ⟨i_lo _, i_hi _⟩ | omega) (fun c8 => by exfalso; omega) (fun c8 => ?_)
        refine Go_aload_n (pc' := 12) dX12_comesTo_11 rfl rfl rfl ?_
        refine Go_getRs (pc' := 15) dX12_comesTo_12 rfl kf_RX12_64 (by decide) (by decide) rfl (S.b 99 rfl rfl) (S.o 99 rfl rfl rfl) (S.r 99 19 rfl rfl rfl) ?_
        refine Go_iconst (v := iZ 2) (pc' := 16) dX12_comesTo_15 rfl (by decide) ?_
        refine Go_iload (pc' := 18) dX12_comesTo_16 rfl rfl ?_
        refine Go_imulZ (pc' := 19) dX12_comesTo_18 rfl ?_
        refine Go_ialoadZ (n := 1220) (k := (2 * i)) (v := (iZ 13)) (pc' := 20) dX12_comesTo_19 rfl (S.b 118 rfl rfl) (S.k 118 rfl rfl rfl) (by omega) (by omega) (by decide) ((viS (by decide)).trans es) ?_
        refine Go_istore (pc' := 22) (lv' := [.ref _, .int _, .int _, .int _, .int _, .int _, _]) dX12_comesTo_20 rfl (Nat.le_of_ble_eq_true rfl) rfl rfl ?_
        refine Go_aload_n (pc' := 23) dX12_comesTo_22 rfl rfl rfl ?_
        refine Go_getRs (pc' := 26) dX12_comesTo_23 rfl kf_RX12_64 (by decide) (by decide) rfl (S.b 99 rfl rfl) (S.o 99 rfl rfl rfl) (S.r 99 19 rfl rfl rfl) ?_
        refine Go_iconst (v := iZ 2) (pc' := 27) dX12_comesTo_26 rfl (by decide) ?_
        refine Go_iload (pc' := 29) dX12_comesTo_27 rfl rfl ?_
        refine Go_imulZ (pc' := 30) dX12_comesTo_29 rfl ?_
        refine Go_iconst (v := iZ 1) (pc' := 31) dX12_comesTo_30 rfl (by decide) ?_
        refine Go_iaddZ (pc' := 32) dX12_comesTo_31 rfl ?_
        refine Go_ialoadZ (n := 1220) (k := (2 * i + 1)) (v := (iZ V)) (pc' := 33) dX12_comesTo_32 rfl (S.b 118 rfl rfl) (S.k 118 rfl rfl rfl) (by omega) (by omega) (by decide) ((viS (by decide)).trans ev) ?_
        refine Go_istore (pc' := 35) (lv' := [.ref _, .int _, .int _, .int _, .int _, .int _, .int _]) dX12_comesTo_33 rfl (Nat.le_of_ble_eq_true rfl) rfl rfl ?_
        refine Go_iload (pc' := 37) dX12_comesTo_35 rfl rfl ?_
        refine Go_bipush (v := iZ 8) (pc' := 39) dX12_comesTo_37 rfl (by decide) ?_
        refine Go_icmp_geY (tgt := 71) (pc' := 42) dX12_comesTo_39 (by decide) rfl (by first | exact ⟨i_lo _, i_hi _⟩ | omega) (by first | exact ⟨i_lo _, i_hi _⟩ | omega) (fun c39 => ?_) (fun c39 => by exfalso; omega)
        refine Go_iload (pc' := 73) dX12_comesTo_71 rfl rfl ?_
        refine Go_bipush (v := iZ 11) (pc' := 75) dX12_comesTo_73 rfl (by decide) ?_
        refine Go_icmp_neY (tgt := 94) (pc' := 78) dX12_comesTo_75 (by decide) rfl (by first | exact ⟨i_lo _, i_hi _⟩ | omega) (by first | exact ⟨i_lo _, i_hi _⟩ | omega) (fun c75 => ?_) (fun c75 => by exfalso; omega)
        refine Go_iload (pc' := 96) dX12_comesTo_94 rfl rfl ?_
        refine Go_bipush (v := iZ 15) (pc' := 98) dX12_comesTo_96 rfl (by decide) ?_
        refine Go_icmp_neY (tgt := 122) (pc' := 101) dX12_comesTo_98 (by decide) rfl (by first | exact ⟨i_lo _, i_hi _⟩ | omega) (by first | exact ⟨i_lo _, i_hi _⟩ | omega) (fun c98 => ?_) (fun c98 => by exfalso; omega)
        refine Go_iincZ (pc' := 125) (lv' := [.ref _, .int _, .int _, .int _, .int _, .int _, .int _]) dX12_comesTo_122 rfl rfl (Nat.le_of_ble_eq_true rfl) rfl rfl ?_
        refine Go_aload_n (pc' := 126) dX12_comesTo_125 rfl rfl rfl ?_
        refine Go_getRs (pc' := 129) dX12_comesTo_126 rfl kf_RX12_61 (by decide) (by decide) rfl (S.b 99 rfl rfl) (S.o 99 rfl rfl rfl) (S.r 99 18 rfl rfl rfl) ?_
        refine Go_iload_n (pc' := 130) dX12_comesTo_129 rfl rfl rfl ?_
        refine Go_iconst (v := iZ 1) (pc' := 131) dX12_comesTo_130 rfl (by decide) ?_
        refine Go_isubZ (pc' := 132) dX12_comesTo_131 rfl ?_
        refine Go_iload (pc' := 134) dX12_comesTo_132 rfl rfl ?_
        refine Go_aload_n (pc' := 135) dX12_comesTo_134 rfl rfl rfl ?_
        refine Go_getRs (pc' := 138) dX12_comesTo_135 rfl kf_RX12_61 (by decide) (by decide) rfl (S.b 99 rfl rfl) (S.o 99 rfl rfl rfl) (S.r 99 18 rfl rfl rfl) ?_
        refine Go_iload_n (pc' := 139) dX12_comesTo_138 rfl rfl rfl ?_
        refine Go_iconst (v := iZ 1) (pc' := 140) dX12_comesTo_139 rfl (by decide) ?_
        refine Go_isubZ (pc' := 141) dX12_comesTo_140 rfl ?_
        refine Go_ialoadZ (n := 620) (k := (((t + (-1)) - 1)).toNat) (v := (iZ X)) (pc' := 142) dX12_comesTo_141 rfl (S.b 117 rfl rfl) (S.k 117 rfl rfl rfl) (by omega) (by omega) (by decide) (((vi_setR h 117 u _).trans (by rw [show (t + (-1) - 1).toNat = y.length by omega]; exact hU.tl.top))) ?_
        refine Go_aload_n (pc' := 143) dX12_comesTo_142 rfl rfl rfl ?_
        refine Go_getRs (pc' := 146) dX12_comesTo_143 rfl kf_RX12_61 (by decide) (by decide) rfl (S.b 99 rfl rfl) (S.o 99 rfl rfl rfl) (S.r 99 18 rfl rfl rfl) ?_
        refine Go_iload_n (pc' := 147) dX12_comesTo_146 rfl rfl rfl ?_
        refine Go_ialoadZ (n := 620) (k := ((t + (-1))).toNat) (v := (iZ Y)) (pc' := 148) dX12_comesTo_147 rfl (S.b 117 rfl rfl) (S.k 117 rfl rfl rfl) (by omega) (by omega) (by decide) (((vi_setR h 117 u _).trans (by rw [show (t + (-1)).toNat = y.length + 1 by omega]; exact hU.top))) ?_
        refine Go_callS_i (pc' := 151) (As := [.int _, .int _, .int _]) (st := [.int _, .ref _]) dX12_comesTo_148 rfl ok_X12_both km_RX12_329 rfl (Nat.le_of_ble_eq_true rfl) rfl rfl rfl (Nat.le_of_ble_eq_true rfl) (Nat.lt_succ_self _) ?_
        refine s_both13 ?_
        refine ⟨_, rfl, ?_⟩
        refine Go_iastoreZ (n := 620) (k := (((t + (-1)) - 1)).toNat) (pc' := 152) dX12_comesTo_151 rfl (S.b 117 rfl rfl) (S.k 117 rfl rfl rfl) (by omega) (by omega) (by decide) ?_
        refine Go_iincZ (pc' := 155) (lv' := [.ref _, .int _, .int _, .int _, .int _, .int _, .int _]) dX12_comesTo_152 rfl rfl (Nat.le_of_ble_eq_true rfl) rfl rfl ?_
        refine Go_goto (tgt := 5) dX12_comesTo_155 (by decide) ?_
        rw [setR_wI]
        have et : (t + (-1) - 1).toNat = y.length := by omega
        rw [et]
        refine ih (i + 1) _ _ _ (t + (-1)) _ _ (by omega) (by rw [List.length_cons]; omega) ht tt.1 tt.2 hs1 ?_ hk
        exact hU.tl.tl.push
      · refine Go_iload (pc' := 7) dX12_comesTo_5 rfl rfl ?_
        refine Go_iload_n (pc' := 8) dX12_comesTo_7 rfl rfl rfl ?_
        refine Go_icmp_geY (tgt := 158) (pc' := 11) dX12_comesTo_8 (by decide) rfl (by first | exact ⟨i_lo _, i_hi _⟩ | omega) (by first | exact ⟨i_lo _, i_hi _⟩ | omega) (fun c8 => by exfalso; omega) (fun c8 => ?_)
        refine Go_aload_n (pc' := 12) dX12_comesTo_11 rfl rfl rfl ?_
        refine Go_getRs (pc' := 15) dX12_comesTo_12 rfl kf_RX12_64 (by decide) (by decide) rfl (S.b 99 rfl rfl) (S.o 99 rfl rfl rfl) (S.r 99 19 rfl rfl rfl) ?_
        refine Go_iconst (v := iZ 2) (pc' := 16) dX12_comesTo_15 rfl (by decide) ?_
        refine Go_iload (pc' := 18) dX12_comesTo_16 rfl rfl ?_
        refine Go_imulZ (pc' := 19) dX12_comesTo_18 rfl ?_
        refine Go_ialoadZ (n := 1220) (k := (2 * i)) (v := (iZ 14)) (pc' := 20) dX12_comesTo_19 rfl (S.b 118 rfl rfl) (S.k 118 rfl rfl rfl) (by omega) (by omega) (by decide) ((viS (by decide)).trans es) ?_
        refine Go_istore (pc' := 22) (lv' := [.ref _, .int _, .int _, .int _, .int _, .int _, _]) dX12_comesTo_20 rfl (Nat.le_of_ble_eq_true rfl) rfl rfl ?_
        refine Go_aload_n (pc' := 23) dX12_comesTo_22 rfl rfl rfl ?_
        refine Go_getRs (pc' := 26) dX12_comesTo_23 rfl kf_RX12_64 (by decide) (by decide) rfl (S.b 99 rfl rfl) (S.o 99 rfl rfl rfl) (S.r 99 19 rfl rfl rfl) ?_
        refine Go_iconst (v := iZ 2) (pc' := 27) dX12_comesTo_26 rfl (by decide) ?_
        refine Go_iload (pc' := 29) dX12_comesTo_27 rfl rfl ?_
        refine Go_imulZ (pc' := 30) dX12_comesTo_29 rfl ?_
        refine Go_iconst (v := iZ 1) (pc' := 31) dX12_comesTo_30 rfl (by decide) ?_
        refine Go_iaddZ (pc' := 32) dX12_comesTo_31 rfl ?_
        refine Go_ialoadZ (n := 1220) (k := (2 * i + 1)) (v := (iZ V)) (pc' := 33) dX12_comesTo_32 rfl (S.b 118 rfl rfl) (S.k 118 rfl rfl rfl) (by omega) (by omega) (by decide) ((viS (by decide)).trans ev) ?_
        refine Go_istore (pc' := 35) (lv' := [.ref _, .int _, .int _, .int _, .int _, .int _, .int _]) dX12_comesTo_33 rfl (Nat.le_of_ble_eq_true rfl) rfl rfl ?_
        refine Go_iload (pc' := 37) dX12_comesTo_35 rfl rfl ?_
        refine Go_bipush (v := iZ 8) (pc' := 39) dX12_comesTo_37 rfl (by decide) ?_
        refine Go_icmp_geY (tgt := 71) (pc' := 42) dX12_comesTo_39 (by decide) rfl (by first | exact ⟨i_lo _, i_hi _⟩ | omega) (by first | exact ⟨i_lo _, i_hi _⟩ | omega) (fun c39 => ?_) (fun c39 => by exfalso; omega)
        refine Go_iload (pc' := 73) dX12_comesTo_71 rfl rfl ?_
        refine Go_bipush (v := iZ 11) (pc' := 75) dX12_comesTo_73 rfl (by decide) ?_
        refine Go_icmp_neY (tgt := 94) (pc' := 78) dX12_comesTo_75 (by decide) rfl (by first | exact ⟨i_lo _, i_hi _⟩ | omega) (by first | exact ⟨i_lo _, i_hi _⟩ | omega) (fun c75 => ?_) (fun c75 => by exfalso; omega)
        refine Go_iload (pc' := 96) dX12_comesTo_94 rfl rfl ?_
        refine Go_bipush (v := iZ 15) (pc' := 98) dX12_comesTo_96 rfl (by decide) ?_
        refine Go_icmp_neY (tgt := 122) (pc' := 101) dX12_comesTo_98 (by decide) rfl (by first | exact ⟨i_lo _, i_hi _⟩ | omega) (by first | exact ⟨i_lo _, i_hi _⟩ | omega) (fun c98 => ?_) (fun c98 => by exfalso; omega)
        refine Go_iincZ (pc' := 125) (lv' := [.ref _, .int _, .int _, .int _, .int _, .int _, .int _]) dX12_comesTo_122 rfl rfl (Nat.le_of_ble_eq_true rfl) rfl rfl ?_
        refine Go_aload_n (pc' := 126) dX12_comesTo_125 rfl rfl rfl ?_
        refine Go_getRs (pc' := 129) dX12_comesTo_126 rfl kf_RX12_61 (by decide) (by decide) rfl (S.b 99 rfl rfl) (S.o 99 rfl rfl rfl) (S.r 99 18 rfl rfl rfl) ?_
        refine Go_iload_n (pc' := 130) dX12_comesTo_129 rfl rfl rfl ?_
        refine Go_iconst (v := iZ 1) (pc' := 131) dX12_comesTo_130 rfl (by decide) ?_
        refine Go_isubZ (pc' := 132) dX12_comesTo_131 rfl ?_
        refine Go_iload (pc' := 134) dX12_comesTo_132 rfl rfl ?_
        refine Go_aload_n (pc' := 135) dX12_comesTo_134 rfl rfl rfl ?_
        refine Go_getRs (pc' := 138) dX12_comesTo_135 rfl kf_RX12_61 (by decide) (by decide) rfl (S.b 99 rfl rfl) (S.o 99 rfl rfl rfl) (S.r 99 18 rfl rfl rfl) ?_
        refine Go_iload_n (pc' := 139) dX12_comesTo_138 rfl rfl rfl ?_
        refine Go_iconst (v := iZ 1) (pc' := 140) dX12_comesTo_139 rfl (by decide) ?_
        refine Go_isubZ (pc' := 141) dX12_comesTo_140 rfl ?_
        refine Go_ialoadZ (n := 620) (k := (((t + (-1)) - 1)).toNat) (v := (iZ X)) (pc' := 142) dX12_comesTo_141 rfl (S.b 117 rfl rfl) (S.k 117 rfl rfl rfl) (by omega) (by omega) (by decide) (((vi_setR h 117 u _).trans (by rw [show (t + (-1) - 1).toNat = y.length by omega]; exact hU.tl.top))) ?_
        refine Go_aload_n (pc' := 143) dX12_comesTo_142 rfl rfl rfl ?_
        refine Go_getRs (pc' := 146) dX12_comesTo_143 rfl kf_RX12_61 (by decide) (by decide) rfl (S.b 99 rfl rfl) (S.o 99 rfl rfl rfl) (S.r 99 18 rfl rfl rfl) ?_
        refine Go_iload_n (pc' := 147) dX12_comesTo_146 rfl rfl rfl ?_
        refine Go_ialoadZ (n := 620) (k := ((t + (-1))).toNat) (v := (iZ Y)) (pc' := 148) dX12_comesTo_147 rfl (S.b 117 rfl rfl) (S.k 117 rfl rfl rfl) (by omega) (by omega) (by decide) (((vi_setR h 117 u _).trans (by rw [show (t + (-1)).toNat = y.length + 1 by omega]; exact hU.top))) ?_
        refine Go_callS_i (pc' := 151) (As := [.int _, .int _, .int _]) (st := [.int _, .ref _]) dX12_comesTo_148 rfl ok_X12_both km_RX12_329 rfl (Nat.le_of_ble_eq_true rfl) rfl rfl rfl (Nat.le_of_ble_eq_true rfl) (Nat.lt_succ_self _) ?_
        refine s_both14 ?_
        refine ⟨_, rfl, ?_⟩
        refine Go_iastoreZ (n := 620) (k := (((t + (-1)) - 1)).toNat) (pc' := 152) dX12_comesTo_151 rfl (S.b 117 rfl rfl) (S.k 117 rfl rfl rfl) (by omega) (by omega) (by decide) ?_
        refine Go_iincZ (pc' := 155) (lv' := [.ref _, .int _, .int _, .int _, .int _, .int _, .int _]) dX12_comesTo_152 rfl rfl (Nat.le_of_ble_eq_true rfl) rfl rfl ?_
        refine Go_goto (tgt := 5) dX12_comesTo_155 (by decide) ?_
        rw [setR_wI]
        have et : (t + (-1) - 1).toNat = y.length := by omega
        rw [et]
        refine ih (i + 1) _ _ _ (t + (-1)) _ _ (by omega) (by rw [List.length_cons]; omega) ht tt.1 tt.2 hs1 ?_ hk
        exact hU.tl.tl.push
    · obtain ⟨a, x, rfl, -, T1⟩ := T.c1
      simp only [List.length_cons] at hn tl hl
      obtain ⟨X, hX, rfl⟩ := i_eta a
      rw [ev15, iZ_sub] at hk tt
      refine Go_iload (pc' := 7) dX12_comesTo_5 rfl rfl ?_
      refine Go_iload_n (pc' := 8) dX12_comesTo_7 rfl rfl rfl ?_
      refine Go_icmp_geY (tgt := 158) (pc' := 11) dX12_comesTo_8 (by decide) rfl (by first | exact ⟨i_lo _, i_hi _⟩ | omega) (by first | exact ⟨i_lo _, i_hi _⟩ | omega) (fun c8 => by exfalso; omega) (fun c8 => ?_)
      refine Go_aload_n (pc' := 12) dX12_comesTo_11 rfl rfl rfl ?_
      refine Go_getRs (pc' := 15) dX12_comesTo_12 rfl kf_RX12_64 (by decide) (by decide) rfl (S.b 99 rfl rfl) (S.o 99 rfl rfl rfl) (S.r 99 19 rfl rfl rfl) ?_
      refine Go_iconst (v := iZ 2) (pc' := 16) dX12_comesTo_15 rfl (by decide) ?_
      refine Go_iload (pc' := 18) dX12_comesTo_16 rfl rfl ?_
      refine Go_imulZ (pc' := 19) dX12_comesTo_18 rfl ?_
      refine Go_ialoadZ (n := 1220) (k := (2 * i)) (v := (iZ 15)) (pc' := 20) dX12_comesTo_19 rfl (S.b 118 rfl rfl) (S.k 118 rfl rfl rfl) (by omega) (by omega) (by decide) ((viS (by decide)).trans es) ?_
      refine Go_istore (pc' := 22) (lv' := [.ref _, .int _, .int _, .int _, .int _, .int _, _]) dX12_comesTo_20 rfl (Nat.le_of_ble_eq_true rfl) rfl rfl ?_
      refine Go_aload_n (pc' := 23) dX12_comesTo_22 rfl rfl rfl ?_
      refine Go_getRs (pc' := 26) dX12_comesTo_23 rfl kf_RX12_64 (by decide) (by decide) rfl (S.b 99 rfl rfl) (S.o 99 rfl rfl rfl) (S.r 99 19 rfl rfl rfl) ?_
      refine Go_iconst (v := iZ 2) (pc' := 27) dX12_comesTo_26 rfl (by decide) ?_
      refine Go_iload (pc' := 29) dX12_comesTo_27 rfl rfl ?_
      refine Go_imulZ (pc' := 30) dX12_comesTo_29 rfl ?_
      refine Go_iconst (v := iZ 1) (pc' := 31) dX12_comesTo_30 rfl (by decide) ?_
      refine Go_iaddZ (pc' := 32) dX12_comesTo_31 rfl ?_
      refine Go_ialoadZ (n := 1220) (k := (2 * i + 1)) (v := (iZ V)) (pc' := 33) dX12_comesTo_32 rfl (S.b 118 rfl rfl) (S.k 118 rfl rfl rfl) (by omega) (by omega) (by decide) ((viS (by decide)).trans ev) ?_
      refine Go_istore (pc' := 35) (lv' := [.ref _, .int _, .int _, .int _, .int _, .int _, .int _]) dX12_comesTo_33 rfl (Nat.le_of_ble_eq_true rfl) rfl rfl ?_
      refine Go_iload (pc' := 37) dX12_comesTo_35 rfl rfl ?_
      refine Go_bipush (v := iZ 8) (pc' := 39) dX12_comesTo_37 rfl (by decide) ?_
      refine Go_icmp_geY (tgt := 71) (pc' := 42) dX12_comesTo_39 (by decide) rfl (by first | exact ⟨i_lo _, i_hi _⟩ | omega) (by first | exact ⟨i_lo _, i_hi _⟩ | omega) (fun c39 => ?_) (fun c39 => by exfalso; omega)
      refine Go_iload (pc' := 73) dX12_comesTo_71 rfl rfl ?_
      refine Go_bipush (v := iZ 11) (pc' := 75) dX12_comesTo_73 rfl (by decide) ?_
      refine Go_icmp_neY (tgt := 94) (pc' := 78) dX12_comesTo_75 (by decide) rfl (by first | exact ⟨i_lo _, i_hi _⟩ | omega) (by first | exact ⟨i_lo _, i_hi _⟩ | omega) (fun c75 => ?_) (fun c75 => by exfalso; omega)
      refine Go_iload (pc' := 96) dX12_comesTo_94 rfl rfl ?_
      refine Go_bipush (v := iZ 15) (pc' := 98) dX12_comesTo_96 rfl (by decide) ?_
      refine Go_icmp_neY (tgt := 122) (pc' := 101) dX12_comesTo_98 (by decide) rfl (by first | exact ⟨i_lo _, i_hi _⟩ | omega) (by first | exact ⟨i_lo _, i_hi _⟩ | omega) (fun c98 => by exfalso; omega) (fun c98 => ?_)
      refine Go_aload_n (pc' := 102) dX12_comesTo_101 rfl rfl rfl ?_
      refine Go_getRs (pc' := 105) dX12_comesTo_102 rfl kf_RX12_61 (by decide) (by decide) rfl (S.b 99 rfl rfl) (S.o 99 rfl rfl rfl) (S.r 99 18 rfl rfl rfl) ?_
      refine Go_iload_n (pc' := 106) dX12_comesTo_105 rfl rfl rfl ?_
      refine Go_iconst (v := iZ 1) (pc' := 107) dX12_comesTo_106 rfl (by decide) ?_
      refine Go_isubZ (pc' := 108) dX12_comesTo_107 rfl ?_
      refine Go_iconst (v := iZ 1) (pc' := 109) dX12_comesTo_108 rfl (by decide) ?_
      refine Go_aload_n (pc' := 110) dX12_comesTo_109 rfl rfl rfl ?_
      refine Go_getRs (pc' := 113) dX12_comesTo_110 rfl kf_RX12_61 (by decide) (by decide) rfl (S.b 99 rfl rfl) (S.o 99 rfl rfl rfl) (S.r 99 18 rfl rfl rfl) ?_
      refine Go_iload_n (pc' := 114) dX12_comesTo_113 rfl rfl rfl ?_
      refine Go_iconst (v := iZ 1) (pc' := 115) dX12_comesTo_114 rfl (by decide) ?_
      refine Go_isubZ (pc' := 116) dX12_comesTo_115 rfl ?_
      refine Go_ialoadZ (n := 620) (k := ((t - 1)).toNat) (v := (iZ X)) (pc' := 117) dX12_comesTo_116 rfl (S.b 117 rfl rfl) (S.k 117 rfl rfl rfl) (by omega) (by omega) (by decide) (((vi_setR h 117 u _).trans (by rw [show (t - 1).toNat = x.length by omega]; exact hU.top))) ?_
      refine Go_isubZ (pc' := 118) dX12_comesTo_117 rfl ?_
      refine Go_iastoreZ (n := 620) (k := ((t - 1)).toNat) (pc' := 119) dX12_comesTo_118 rfl (S.b 117 rfl rfl) (S.k 117 rfl rfl rfl) (by omega) (by omega) (by decide) ?_
      refine Go_goto (tgt := 152) dX12_comesTo_119 (by decide) ?_
      refine Go_iincZ (pc' := 155) (lv' := [.ref _, .int _, .int _, .int _, .int _, .int _, .int _]) dX12_comesTo_152 rfl rfl (Nat.le_of_ble_eq_true rfl) rfl rfl ?_
      refine Go_goto (tgt := 5) dX12_comesTo_155 (by decide) ?_
      rw [setR_wI]
      have et : (t - 1).toNat = x.length := by omega
      rw [et]
      refine ih (i + 1) _ _ _ t _ _ (by omega) (by show t = (((_ :: x : List Int32).length : Nat) : Int); rw [List.length_cons]; omega) ht tt.1 tt.2 hs1 ?_ hk
      exact hU.tl.push
    · obtain ⟨a1, x, rfl, -, T1⟩ := T.c1
      obtain ⟨a2, y, rfl, -, T2⟩ := T1.c1
      simp only [List.length_cons] at hn tl hl
      obtain ⟨Y, hY, rfl⟩ := i_eta a1
      obtain ⟨X, hX, rfl⟩ := i_eta a2
      rw [evb (by omega)] at hk tt
      rcases hk8 with rfl | rfl
      · refine Go_iload (pc' := 7) dX12_comesTo_5 rfl rfl ?_
        refine Go_iload_n (pc' := 8) dX12_comesTo_7 rfl rfl rfl ?_
        refine Go_icmp_geY (tgt := 158) (pc' := 11) dX12_comesTo_8 (by decide) rfl (by first | exact ⟨i_lo _, i_hi _⟩ | omega) (by first | exact ⟨i_lo _, i_hi _⟩ | omega) (fun c8 => by exfalso; omega) (fun c8 => ?_)
        refine Go_aload_n (pc' := 12) dX12_comesTo_11 rfl rfl rfl ?_
        refine Go_getRs (pc' := 15) dX12_comesTo_12 rfl kf_RX12_64 (by decide) (by decide) rfl (S.b 99 rfl rfl) (S.o 99 rfl rfl rfl) (S.r 99 19 rfl rfl rfl) ?_
        refine Go_iconst (v := iZ 2) (pc' := 16) dX12_comesTo_15 rfl (by decide) ?_
        refine Go_iload (pc' := 18) dX12_comesTo_16 rfl rfl ?_
        refine Go_imulZ (pc' := 19) dX12_comesTo_18 rfl ?_
        refine Go_ialoadZ (n := 1220) (k := (2 * i)) (v := (iZ 16)) (pc' := 20) dX12_comesTo_19 rfl (S.b 118 rfl rfl) (S.k 118 rfl rfl rfl) (by omega) (by omega) (by decide) ((viS (by decide)).trans es) ?_
        refine Go_istore (pc' := 22) (lv' := [.ref _, .int _, .int _, .int _, .int _, .int _, _]) dX12_comesTo_20 rfl (Nat.le_of_ble_eq_true rfl) rfl rfl ?_
        refine Go_aload_n (pc' := 23) dX12_comesTo_22 rfl rfl rfl ?_
        refine Go_getRs (pc' := 26) dX12_comesTo_23 rfl kf_RX12_64 (by decide) (by decide) rfl (S.b 99 rfl rfl) (S.o 99 rfl rfl rfl) (S.r 99 19 rfl rfl rfl) ?_
        refine Go_iconst (v := iZ 2) (pc' := 27) dX12_comesTo_26 rfl (by decide) ?_
        refine Go_iload (pc' := 29) dX12_comesTo_27 rfl rfl ?_
        refine Go_imulZ (pc' := 30) dX12_comesTo_29 rfl ?_
        refine Go_iconst (v := iZ 1) (pc' := 31) dX12_comesTo_30 rfl (by decide) ?_
        refine Go_iaddZ (pc' := 32) dX12_comesTo_31 rfl ?_
        refine Go_ialoadZ (n := 1220) (k := (2 * i + 1)) (v := (iZ V)) (pc' := 33) dX12_comesTo_32 rfl (S.b 118 rfl rfl) (S.k 118 rfl rfl rfl) (by omega) (by omega) (by decide) ((viS (by decide)).trans ev) ?_
        refine Go_istore (pc' := 35) (lv' := [.ref _, .int _, .int _, .int _, .int _, .int _, .int _]) dX12_comesTo_33 rfl (Nat.le_of_ble_eq_true rfl) rfl rfl ?_
        refine Go_iload (pc' := 37) dX12_comesTo_35 rfl rfl ?_
        refine Go_bipush (v := iZ 8) (pc' := 39) dX12_comesTo_37 rfl (by decide) ?_
        refine Go_icmp_geY (tgt := 71) (pc' := 42) dX12_comesTo_39 (by decide) rfl (by first | exact ⟨i_lo _, i_hi _⟩ | omega) (by first | exact ⟨i_lo _, i_hi _⟩ | omega) (fun c39 => ?_) (fun c39 => by exfalso; omega)
        refine Go_iload (pc' := 73) dX12_comesTo_71 rfl rfl ?_
        refine Go_bipush (v := iZ 11) (pc' := 75) dX12_comesTo_73 rfl (by decide) ?_
        refine Go_icmp_neY (tgt := 94) (pc' := 78) dX12_comesTo_75 (by decide) rfl (by first | exact ⟨i_lo _, i_hi _⟩ | omega) (by first | exact ⟨i_lo _, i_hi _⟩ | omega) (fun c75 => ?_) (fun c75 => by exfalso; omega)
        refine Go_iload (pc' := 96) dX12_comesTo_94 rfl rfl ?_
        refine Go_bipush (v := iZ 15) (pc' := 98) dX12_comesTo_96 rfl (by decide) ?_
        refine Go_icmp_neY (tgt := 122) (pc' := 101) dX12_comesTo_98 (by decide) rfl (by first | exact ⟨i_lo _, i_hi _⟩ | omega) (by first | exact ⟨i_lo _, i_hi _⟩ | omega) (fun c98 => ?_) (fun c98 => by exfalso; omega)
        refine Go_iincZ (pc' := 125) (lv' := [.ref _, .int _, .int _, .int _, .int _, .int _, .int _]) dX12_comesTo_122 rfl rfl (Nat.le_of_ble_eq_true rfl) rfl rfl ?_
        refine Go_aload_n (pc' := 126) dX12_comesTo_125 rfl rfl rfl ?_
        refine Go_getRs (pc' := 129) dX12_comesTo_126 rfl kf_RX12_61 (by decide) (by decide) rfl (S.b 99 rfl rfl) (S.o 99 rfl rfl rfl) (S.r 99 18 rfl rfl rfl) ?_
        refine Go_iload_n (pc' := 130) dX12_comesTo_129 rfl rfl rfl ?_
        refine Go_iconst (v := iZ 1) (pc' := 131) dX12_comesTo_130 rfl (by decide) ?_
        refine Go_isubZ (pc' := 132) dX12_comesTo_131 rfl ?_
        refine Go_iload (pc' := 134) dX12_comesTo_132 rfl rfl ?_
        refine Go_aload_n (pc' := 135) dX12_comesTo_134 rfl rfl rfl ?_
        refine Go_getRs (pc' := 138) dX12_comesTo_135 rfl kf_RX12_61 (by decide) (by decide) rfl (S.b 99 rfl rfl) (S.o 99 rfl rfl rfl) (S.r 99 18 rfl rfl rfl) ?_
        refine Go_iload_n (pc' := 139) dX12_comesTo_138 rfl rfl rfl ?_
        refine Go_iconst (v := iZ 1) (pc' := 140) dX12_comesTo_139 rfl (by decide) ?_
        refine Go_isubZ (pc' := 141) dX12_comesTo_140 rfl ?_
        refine Go_ialoadZ (n := 620) (k := (((t + (-1)) - 1)).toNat) (v := (iZ X)) (pc' := 142) dX12_comesTo_141 rfl (S.b 117 rfl rfl) (S.k 117 rfl rfl rfl) (by omega) (by omega) (by decide) (((vi_setR h 117 u _).trans (by rw [show (t + (-1) - 1).toNat = y.length by omega]; exact hU.tl.top))) ?_
        refine Go_aload_n (pc' := 143) dX12_comesTo_142 rfl rfl rfl ?_
        refine Go_getRs (pc' := 146) dX12_comesTo_143 rfl kf_RX12_61 (by decide) (by decide) rfl (S.b 99 rfl rfl) (S.o 99 rfl rfl rfl) (S.r 99 18 rfl rfl rfl) ?_
        refine Go_iload_n (pc' := 147) dX12_comesTo_146 rfl rfl rfl ?_
        refine Go_ialoadZ (n := 620) (k := ((t + (-1))).toNat) (v := (iZ Y)) (pc' := 148) dX12_comesTo_147 rfl (S.b 117 rfl rfl) (S.k 117 rfl rfl rfl) (by omega) (by omega) (by decide) (((vi_setR h 117 u _).trans (by rw [show (t + (-1)).toNat = y.length + 1 by omega]; exact hU.top))) ?_
        refine Go_callS_i (pc' := 151) (As := [.int _, .int _, .int _]) (st := [.int _, .ref _]) dX12_comesTo_148 rfl ok_X12_both km_RX12_329 rfl (Nat.le_of_ble_eq_true rfl) rfl rfl rfl (Nat.le_of_ble_eq_true rfl) (Nat.lt_succ_self _) ?_
        refine s_both16 ?_
        refine ⟨_, rfl, ?_⟩
        refine Go_iastoreZ (n := 620) (k := (((t + (-1)) - 1)).toNat) (pc' := 152) dX12_comesTo_151 rfl (S.b 117 rfl rfl) (S.k 117 rfl rfl rfl) (by omega) (by omega) (by decide) ?_
        refine Go_iincZ (pc' := 155) (lv' := [.ref _, .int _, .int _, .int _, .int _, .int _, .int _]) dX12_comesTo_152 rfl rfl (Nat.le_of_ble_eq_true rfl) rfl rfl ?_
        refine Go_goto (tgt := 5) dX12_comesTo_155 (by decide) ?_
        rw [setR_wI]
        have et : (t + (-1) - 1).toNat = y.length := by omega
        rw [et]
        refine ih (i + 1) _ _ _ (t + (-1)) _ _ (by omega) (by rw [List.length_cons]; omega) ht tt.1 tt.2 hs1 ?_ hk
        exact hU.tl.tl.push
      · refine Go_iload (pc' := 7) dX12_comesTo_5 rfl rfl ?_
        refine Go_iload_n (pc' := 8) dX12_comesTo_7 rfl rfl rfl ?_
        refine Go_icmp_geY (tgt := 158) (pc' := 11) dX12_comesTo_8 (by decide) rfl (by first | exact ⟨i_lo _, i_hi _⟩ | omega) (by first | exact ⟨i_lo _, i_hi _⟩ | omega) (fun c8 => by exfalso; omega) (fun c8 => ?_)
        refine Go_aload_n (pc' := 12) dX12_comesTo_11 rfl rfl rfl ?_
        refine Go_getRs (pc' := 15) dX12_comesTo_12 rfl kf_RX12_64 (by decide) (by decide) rfl (S.b 99 rfl rfl) (S.o 99 rfl rfl rfl) (S.r 99 19 rfl rfl rfl) ?_
        refine Go_iconst (v := iZ 2) (pc' := 16) dX12_comesTo_15 rfl (by decide) ?_
        refine Go_iload (pc' := 18) dX12_comesTo_16 rfl rfl ?_
        refine Go_imulZ (pc' := 19) dX12_comesTo_18 rfl ?_
        refine Go_ialoadZ (n := 1220) (k := (2 * i)) (v := (iZ 17)) (pc' := 20) dX12_comesTo_19 rfl (S.b 118 rfl rfl) (S.k 118 rfl rfl rfl) (by omega) (by omega) (by decide) ((viS (by decide)).trans es) ?_
        refine Go_istore (pc' := 22) (lv' := [.ref _, .int _, .int _, .int _, .int _, .int _, _]) dX12_comesTo_20 rfl (Nat.le_of_ble_eq_true rfl) rfl rfl ?_
        refine Go_aload_n (pc' := 23) dX12_comesTo_22 rfl rfl rfl ?_
        refine Go_getRs (pc' := 26) dX12_comesTo_23 rfl kf_RX12_64 (by decide) (by decide) rfl (S.b 99 rfl rfl) (S.o 99 rfl rfl rfl) (S.r 99 19 rfl rfl rfl) ?_
        refine Go_iconst (v := iZ 2) (pc' := 27) dX12_comesTo_26 rfl (by decide) ?_
        refine Go_iload (pc' := 29) dX12_comesTo_27 rfl rfl ?_
        refine Go_imulZ (pc' := 30) dX12_comesTo_29 rfl ?_
        refine Go_iconst (v := iZ 1) (pc' := 31) dX12_comesTo_30 rfl (by decide) ?_
        refine Go_iaddZ (pc' := 32) dX12_comesTo_31 rfl ?_
        refine Go_ialoadZ (n := 1220) (k := (2 * i + 1)) (v := (iZ V)) (pc' := 33) dX12_comesTo_32 rfl (S.b 118 rfl rfl) (S.k 118 rfl rfl rfl) (by omega) (by omega) (by decide) ((viS (by decide)).trans ev) ?_
        refine Go_istore (pc' := 35) (lv' := [.ref _, .int _, .int _, .int _, .int _, .int _, .int _]) dX12_comesTo_33 rfl (Nat.le_of_ble_eq_true rfl) rfl rfl ?_
        refine Go_iload (pc' := 37) dX12_comesTo_35 rfl rfl ?_
        refine Go_bipush (v := iZ 8) (pc' := 39) dX12_comesTo_37 rfl (by decide) ?_
        refine Go_icmp_geY (tgt := 71) (pc' := 42) dX12_comesTo_39 (by decide) rfl (by first | exact ⟨i_lo _, i_hi _⟩ | omega) (by first | exact ⟨i_lo _, i_hi _⟩ | omega) (fun c39 => ?_) (fun c39 => by exfalso; omega)
        refine Go_iload (pc' := 73) dX12_comesTo_71 rfl rfl ?_
        refine Go_bipush (v := iZ 11) (pc' := 75) dX12_comesTo_73 rfl (by decide) ?_
        refine Go_icmp_neY (tgt := 94) (pc' := 78) dX12_comesTo_75 (by decide) rfl (by first | exact ⟨i_lo _, i_hi _⟩ | omega) (by first | exact ⟨i_lo _, i_hi _⟩ | omega) (fun c75 => ?_) (fun c75 => by exfalso; omega)
        refine Go_iload (pc' := 96) dX12_comesTo_94 rfl rfl ?_
        refine Go_bipush (v := iZ 15) (pc' := 98) dX12_comesTo_96 rfl (by decide) ?_
        refine Go_icmp_neY (tgt := 122) (pc' := 101) dX12_comesTo_98 (by decide) rfl (by first | exact ⟨i_lo _, i_hi _⟩ | omega) (by first | exact ⟨i_lo _, i_hi _⟩ | omega) (fun c98 => ?_) (fun c98 => by exfalso; omega)
        refine Go_iincZ (pc' := 125) (lv' := [.ref _, .int _, .int _, .int _, .int _, .int _, .int _]) dX12_comesTo_122 rfl rfl (Nat.le_of_ble_eq_true rfl) rfl rfl ?_
        refine Go_aload_n (pc' := 126) dX12_comesTo_125 rfl rfl rfl ?_
        refine Go_getRs (pc' := 129) dX12_comesTo_126 rfl kf_RX12_61 (by decide) (by decide) rfl (S.b 99 rfl rfl) (S.o 99 rfl rfl rfl) (S.r 99 18 rfl rfl rfl) ?_
        refine Go_iload_n (pc' := 130) dX12_comesTo_129 rfl rfl rfl ?_
        refine Go_iconst (v := iZ 1) (pc' := 131) dX12_comesTo_130 rfl (by decide) ?_
        refine Go_isubZ (pc' := 132) dX12_comesTo_131 rfl ?_
        refine Go_iload (pc' := 134) dX12_comesTo_132 rfl rfl ?_
        refine Go_aload_n (pc' := 135) dX12_comesTo_134 rfl rfl rfl ?_
        refine Go_getRs (pc' := 138) dX12_comesTo_135 rfl kf_RX12_61 (by decide) (by decide) rfl (S.b 99 rfl rfl) (S.o 99 rfl rfl rfl) (S.r 99 18 rfl rfl rfl) ?_
        refine Go_iload_n (pc' := 139) dX12_comesTo_138 rfl rfl rfl ?_
        refine Go_iconst (v := iZ 1) (pc' := 140) dX12_comesTo_139 rfl (by decide) ?_
        refine Go_isubZ (pc' := 141) dX12_comesTo_140 rfl ?_
        refine Go_ialoadZ (n := 620) (k := (((t + (-1)) - 1)).toNat) (v := (iZ X)) (pc' := 142) dX12_comesTo_141 rfl (S.b 117 rfl rfl) (S.k 117 rfl rfl rfl) (by omega) (by omega) (by decide) (((vi_setR h 117 u _).trans (by rw [show (t + (-1) - 1).toNat = y.length by omega]; exact hU.tl.top))) ?_
        refine Go_aload_n (pc' := 143) dX12_comesTo_142 rfl rfl rfl ?_
        refine Go_getRs (pc' := 146) dX12_comesTo_143 rfl kf_RX12_61 (by decide) (by decide) rfl (S.b 99 rfl rfl) (S.o 99 rfl rfl rfl) (S.r 99 18 rfl rfl rfl) ?_
        refine Go_iload_n (pc' := 147) dX12_comesTo_146 rfl rfl rfl ?_
        refine Go_ialoadZ (n := 620) (k := ((t + (-1))).toNat) (v := (iZ Y)) (pc' := 148) dX12_comesTo_147 rfl (S.b 117 rfl rfl) (S.k 117 rfl rfl rfl) (by omega) (by omega) (by decide) (((vi_setR h 117 u _).trans (by rw [show (t + (-1)).toNat = y.length + 1 by omega]; exact hU.top))) ?_
        refine Go_callS_i (pc' := 151) (As := [.int _, .int _, .int _]) (st := [.int _, .ref _]) dX12_comesTo_148 rfl ok_X12_both km_RX12_329 rfl (Nat.le_of_ble_eq_true rfl) rfl rfl rfl (Nat.le_of_ble_eq_true rfl) (Nat.lt_succ_self _) ?_
        refine s_both17 ?_
        refine ⟨_, rfl, ?_⟩
        refine Go_iastoreZ (n := 620) (k := (((t + (-1)) - 1)).toNat) (pc' := 152) dX12_comesTo_151 rfl (S.b 117 rfl rfl) (S.k 117 rfl rfl rfl) (by omega) (by omega) (by decide) ?_
        refine Go_iincZ (pc' := 155) (lv' := [.ref _, .int _, .int _, .int _, .int _, .int _, .int _]) dX12_comesTo_152 rfl rfl (Nat.le_of_ble_eq_true rfl) rfl rfl ?_
        refine Go_goto (tgt := 5) dX12_comesTo_155 (by decide) ?_
        rw [setR_wI]
        have et : (t + (-1) - 1).toNat = y.length := by omega
        rw [et]
        refine ih (i + 1) _ _ _ (t + (-1)) _ _ (by omega) (by rw [List.length_cons]; omega) ht tt.1 tt.2 hs1 ?_ hk
        exact hU.tl.tl.push
set_option maxRecDepth 20000 in
set_option maxHeartbeats 1000000 in
theorem s_ct {G : GC} {d mc ms : Nat} {h : HS} {K : Option Value → HS → Prop} (S : Shp h) {F : Nat → Int32} (hF : ∀ k, 1 ≤ k → k ≤ 7 → vi h 115 k = F k) {e : Nat} (he : e ≤ 600) {l : List Stp2} {i : Nat} {u : Nat → Int32} (hi : i + l.length = e) (ht : tyR l [] = some [true]) (hs : (∀ x, x < l.length → vi h 118 (2 * (i + x)) = nI (l.getD x (0, 0)).1 ∧ vi h 118 (2 * (i + x) + 1) = (l.getD x (0, 0)).2)) (hk : ∀ u', K (some (.int (iZ ((evR F l []).headD 0).toInt))) (setR h 117 u')) : Go G (d + 1) mc ms M_X12_comesTo 0 [.ref 99, .int (iZ (i : Int)), .int (iZ (e : Int)), un, un, un, un] [] (setR h 117 u) K := by
  rw [iZ_self] at hk
  refine Go_iconst (v := iZ 0) (pc' := 1) dX12_comesTo_0 rfl (by decide) ?_
  refine Go_istore_n (pc' := 2) (lv' := [.ref _, .int _, .int _, .int _, un, un, un]) dX12_comesTo_1 rfl rfl (Nat.le_of_ble_eq_true rfl) rfl rfl ?_
  refine Go_iload_n (pc' := 3) dX12_comesTo_2 rfl rfl rfl ?_
  refine Go_istore (pc' := 5) (lv' := [.ref _, .int _, .int _, .int _, .int _, un, un]) dX12_comesTo_3 rfl (Nat.le_of_ble_eq_true rfl) rfl rfl ?_
  exact ct_loop S hF he l i [] [] u 0 _ _ hi rfl ht trivial (by simp) hs (fun k hk => by simp at hk) hk
theorem drop_l {p : List Lin} {k : Nat} (h : k < p.length) : p.drop k = p.getD k (0, []) :: p.drop (k + 1) := by
  rw [List.drop_eq_getElem_cons h, List.getD_eq_getElem?_getD, List.getElem?_eq_getElem h]; rfl
theorem take_l {p : List Lin} {k : Nat} (h : k < p.length) : (stepsM (p.take (k + 1))).length = (stepsM (p.take k)).length + (p.getD k (0, [])).2.length := by
  rw [List.take_add_one, List.getElem?_eq_getElem h, List.getD_eq_getElem?_getD, List.getElem?_eq_getElem h]
  unfold stepsM
  rw [List.flatMap_append, List.length_append]
  simp
theorem steps_e {p : List Lin} {k : Nat} (h : k < p.length) : stepsM p = stepsM (p.take k) ++ ((p.getD k (0, [])).2 ++ stepsM (p.drop (k + 1))) := by
  have e : stepsM p = stepsM (p.take k ++ p.drop k) := by rw [List.take_append_drop]
  rw [e, drop_l h]
  unfold stepsM
  rw [List.flatMap_append, List.flatMap_cons]
theorem steps_g {p : List Lin} {k x : Nat} (h : k < p.length) (hx : x < (p.getD k (0, [])).2.length) : (stepsM (p.take k)).length + x < (stepsM p).length ∧ (stepsM p).getD ((stepsM (p.take k)).length + x) (0, 0) = (p.getD k (0, [])).2.getD x (0, 0) := by
  rw [steps_e h]
  refine ⟨by rw [List.length_append, List.length_append]; omega, ?_⟩
  rw [List.getD_eq_getElem?_getD, List.getElem?_append_right (by omega), Nat.add_sub_cancel_left, List.getElem?_append_left hx, ← List.getD_eq_getElem?_getD]
theorem take_le {p : List Lin} {k : Nat} : (stepsM (p.take k)).length ≤ (stepsM p).length := by
  have e : stepsM p = stepsM (p.take k ++ p.drop k) := by rw [List.take_append_drop]
  rw [e]; unfold stepsM
  rw [List.flatMap_append, List.length_append]; omega
theorem t1_iff {x : Int32} : x.toInt = 1 ↔ x = 1 := ⟨fun h => (iZ_of h).trans (by decide), fun h => by rw [h]; decide⟩
theorem goodL_at {p : List Lin} {k : Nat} (G : goodP p) (h : k < p.length) : goodL (p.getD k (0, [])) := by
  rw [List.getD_eq_getElem?_getD, List.getElem?_eq_getElem h]
  exact G.2.2.2 _ (List.getElem_mem h)

set_option maxRecDepth 20000 in
set_option maxHeartbeats 1000000 in
theorem km_loop {G : GC} {d mc ms : Nat} {h : HS} {K : Option Value → HS → Prop} (S : Shp h) {F : Nat → Int32} (hF : ∀ k, 1 ≤ k → k ≤ 7 → vi h 115 k = F k) {p : List Lin} (GP : goodP p) (EM : EncM h p) {c a b E D : Int} : ∀ (m k : Nat) (u : Nat → Int32), k + m = p.length → (∀ u', K (some (.int (iZ (kindP F (p.drop k))))) (setR h 117 u')) → Go G (d + 2) mc ms M_X12_kind 60 [.ref 99, .int (iZ c), .int (iZ a), .int (iZ b), .int (iZ E), .int (iZ D), .int (iZ (k : Int))] [] (setR h 117 u) K := by
  have hp := GP.1
  have hst := GP.2.2.1
  intro m
  induction m with
  | zero =>
    intro k u hm hk
    refine Go_iload (pc' := 62) dX12_kind_60 rfl rfl ?_
    refine Go_aload_n (pc' := 63) dX12_kind_62 rfl rfl rfl ?_
    refine Go_getIv (v := (iZ (p.length : Int))) (pc' := 66) dX12_kind_63 rfl kf_RX12_326 (by decide) (by decide) rfl (S.b 99 rfl rfl) (S.o 99 rfl rfl rfl) ((viS (by decide)).trans (EM.1.trans (iZ_nat _).symm)) ?_
    refine Go_icmp_geY (tgt := 107) (pc' := 69) dX12_kind_66 (by decide) rfl (by first | exact ⟨i_lo _, i_hi _⟩ | omega) (by first | exact ⟨i_lo _, i_hi _⟩ | omega) (fun c66 => ?_) (fun c66 => by exfalso; omega)
    refine Go_iconst (v := iZ 0) (pc' := 108) dX12_kind_107 rfl (by decide) ?_
    refine Go_ireturn (ty := .int) dX12_kind_108 rfl rfl ?_
    rw [List.drop_eq_nil_of_le (by omega)] at hk; exact hk u
  | succ m ih =>
    intro k u hm hk
    have gl := goodL_at GP (k := k) (by omega)
    have hE : ∀ x, x < (p.getD k (0, [])).2.length → vi h 118 (2 * ((stepsM (p.take k)).length + x)) = nI ((p.getD k (0, [])).2.getD x (0, 0)).1 ∧ vi h 118 (2 * ((stepsM (p.take k)).length + x) + 1) = ((p.getD k (0, [])).2.getD x (0, 0)).2 := fun x hx => by
      have g := steps_g (by omega) hx
      have m := EM.2.2.2 _ g.1
      rw [g.2] at m; exact m
    have t1 := take_le (p := p) (k := k)
    have t2 := take_le (p := p) (k := k + 1)
    refine Go_iload (pc' := 62) dX12_kind_60 rfl rfl ?_
    refine Go_aload_n (pc' := 63) dX12_kind_62 rfl rfl rfl ?_
    refine Go_getIv (v := (iZ (p.length : Int))) (pc' := 66) dX12_kind_63 rfl kf_RX12_326 (by decide) (by decide) rfl (S.b 99 rfl rfl) (S.o 99 rfl rfl rfl) ((viS (by decide)).trans (EM.1.trans (iZ_nat _).symm)) ?_
    refine Go_icmp_geY (tgt := 107) (pc' := 69) dX12_kind_66 (by decide) rfl (by first | exact ⟨i_lo _, i_hi _⟩ | omega) (by first | exact ⟨i_lo _, i_hi _⟩ | omega) (fun c66 => by exfalso; omega) (fun c66 => ?_)
    refine Go_aload_n (pc' := 70) dX12_kind_69 rfl rfl rfl ?_
    refine Go_aload_n (pc' := 71) dX12_kind_70 rfl rfl rfl ?_
    refine Go_getRs (pc' := 74) dX12_kind_71 rfl kf_RX12_73 (by decide) (by decide) rfl (S.b 99 rfl rfl) (S.o 99 rfl rfl rfl) (S.r 99 22 rfl rfl rfl) ?_
    refine Go_iload (pc' := 76) dX12_kind_74 rfl rfl ?_
    refine Go_ialoadZ (n := 17) (k := k) (v := (iZ ((stepsM (p.take k)).length : Int))) (pc' := 77) dX12_kind_76 rfl (S.b 121 rfl rfl) (S.k 121 rfl rfl rfl) rfl (by omega) (by decide) ((viS (by decide)).trans ((EM.2.2.1 k (by omega)).trans (iZ_nat _).symm)) ?_
    refine Go_aload_n (pc' := 78) dX12_kind_77 rfl rfl rfl ?_
    refine Go_getRs (pc' := 81) dX12_kind_78 rfl kf_RX12_73 (by decide) (by decide) rfl (S.b 99 rfl rfl) (S.o 99 rfl rfl rfl) (S.r 99 22 rfl rfl rfl) ?_
    refine Go_iload (pc' := 83) dX12_kind_81 rfl rfl ?_
    refine Go_iconst (v := iZ 1) (pc' := 84) dX12_kind_83 rfl (by decide) ?_
    refine Go_iaddZ (pc' := 85) dX12_kind_84 rfl ?_
    refine Go_ialoadZ (n := 17) (k := (k + 1)) (v := (iZ ((stepsM (p.take (k + 1))).length : Int))) (pc' := 86) dX12_kind_85 rfl (S.b 121 rfl rfl) (S.k 121 rfl rfl rfl) (by omega) (by omega) (by decide) ((viS (by decide)).trans ((EM.2.2.1 (k + 1) (by omega)).trans (iZ_nat _).symm)) ?_
    refine Go_callV_i (pc' := 89) (As := [.int _, .int _]) (st := []) dX12_kind_86 rfl ok_X12_comesTo km_RX12_333 (S.o 99 rfl rfl rfl) (S.b 99 rfl rfl) ⟨_, _, rfl⟩ rfl (Nat.le_of_ble_eq_true rfl) rfl rfl rfl (Nat.le_of_ble_eq_true rfl) (Nat.lt_succ_self _) ?_
    refine s_ct S hF (e := (stepsM (p.take (k + 1))).length) (by omega) (l := (p.getD k (0, [])).2) (by rw [take_l (by omega)]) gl.2.2 hE (fun u1 => ?_)
    refine ⟨_, rfl, ?_⟩
    refine Go_iconst (v := iZ 1) (pc' := 90) dX12_kind_89 rfl (by decide) ?_
    refine Go_icmp_neY (tgt := 101) (pc' := 93) dX12_kind_90 (by decide) rfl (by first | exact ⟨i_lo _, i_hi _⟩ | omega) (by first | exact ⟨i_lo _, i_hi _⟩ | omega) (fun c90 => ?_) (fun c90 => ?_)
    · refine Go_iincZ (pc' := 104) (lv' := [.ref _, .int _, .int _, .int _, .int _, .int _, .int _]) dX12_kind_101 rfl rfl (Nat.le_of_ble_eq_true rfl) rfl rfl ?_
      refine Go_goto (tgt := 60) dX12_kind_104 (by decide) ?_
      refine ih (k + 1) u1 (by omega) (fun u2 => ?_)
      have hk := hk u2
      rw [drop_l (by omega)] at hk
      have hk : K (some (.int (iZ (if _ then _ else _)))) _ := hk
      rw [if_neg (fun z => c90 (t1_iff.2 z))] at hk; exact hk
    · refine Go_aload_n (pc' := 94) dX12_kind_93 rfl rfl rfl ?_
      refine Go_getRs (pc' := 97) dX12_kind_94 rfl kf_RX12_70 (by decide) (by decide) rfl (S.b 99 rfl rfl) (S.o 99 rfl rfl rfl) (S.r 99 21 rfl rfl rfl) ?_
      refine Go_iload (pc' := 99) dX12_kind_97 rfl rfl ?_
      refine Go_ialoadZ (n := 16) (k := k) (v := (iZ ((p.getD k (0, [])).1 : Int))) (pc' := 100) dX12_kind_99 rfl (S.b 120 rfl rfl) (S.k 120 rfl rfl rfl) rfl (by omega) (by decide) ((viS (by decide)).trans ((EM.2.1 k (by omega)).trans (iZ_nat _).symm)) ?_
      refine Go_ireturn (ty := .int) dX12_kind_100 rfl rfl ?_
      rw [drop_l (by omega)] at hk
      have hk := hk u1
      have hk : K (some (.int (iZ (if _ then _ else _)))) _ := hk
      rw [if_pos (t1_iff.1 c90)] at hk; exact hk
