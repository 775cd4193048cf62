/-! the two readers side by side: tokens, configurations, typing -/
def tcs (c : Int) : Prop := (0 ≤ c ∧ c ≤ 13) ∨ (20 ≤ c ∧ c ≤ 22) ∨ (140 ≤ c ∧ c ≤ 162)
theorem tC_s {T : Nat → Int} {n pos : Nat} : tcs (tC T n pos) := by
  unfold tcs
  by_cases c0 : n ≤ tP T n pos
  · rw [tC_fin c0]; omega
  · by_cases cl : leB (T (tP T n pos)) = true
    · rw [tC_let c0 cl]
      have := kwf_r (T := T) (p := tP T n pos) (e := tE T n pos) 14 0
      omega
    · by_cases cd : diB (T (tP T n pos)) = true
      · rw [tC_dig c0 cl cd]; split <;> omega
      · rw [tC_sig c0 cl cd]
        by_cases z : sgn (T (tP T n pos))
        · rw [if_pos z]; omega
        · rw [if_neg z]; omega
/-- the model's number of a token, for omega -/
theorem mtk_x {c : Int} (h : tcs c) : (0 ≤ c ∧ c ≤ 2 ∧ mtk c = c + 11) ∨ (3 ≤ c ∧ c ≤ 6 ∧ mtk c = c) ∨ (7 ≤ c ∧ c ≤ 13 ∧ mtk c = c + 14) ∨ (c = 20 ∧ mtk c = 2) ∨ (c = 21 ∧ mtk c = 0) ∨ (c = 22 ∧ mtk c = 1) ∨ (140 ≤ c ∧ c ≤ 162 ∧ mtk c = c) := by
  unfold tcs at h
  generalize hm : mtk c = m
  unfold mtk at hm
  (repeat' split at hm) <;> omega
theorem tE_lt {T : Nat → Int} {n pos : Nat} (hp : pos ≤ n) (h : ¬ tC T n pos = 21) : pos < tE T n pos ∧ tE T n pos ≤ n := by
  have her := tE_r (T := T) hp
  have hpr := tP_r (T := T) hp
  by_cases c0 : n ≤ tP T n pos
  · exact absurd (tC_fin c0) h
  · have := her.2.2 (by omega)
    omega
/-- the class's run comes to s at pos -/
def zCf (T : Nat → Int) (n : Nat) (s0 : St6) (pos : Nat) (s : St6) : Prop := ∃ m, 601 ≤ m + pos ∧ rn T n 601 0 s0 = rn T n m pos s
theorem zCf.st {T : Nat → Int} {n pos : Nat} {s0 s s' : St6} (C : zCf T n s0 pos s) (hp : pos ≤ n) (hn : n ≤ 600) (h21 : ¬ tC T n pos = 21) (hz : zst (tC T n pos) (tV T n pos) s = (0, s')) : zCf T n s0 (tE T n pos) s' := by
  obtain ⟨m, h1, h2⟩ := C
  obtain ⟨m', rfl⟩ : ∃ m', m = m' + 1 := ⟨m - 1, by omega⟩
  have hl := tE_lt (T := T) hp h21
  refine ⟨m', by omega, ?_⟩
  have e0 : (zst (tC T n pos) (tV T n pos) s).1 = 0 := by rw [hz]
  rw [h2, rn_s (fun z => h21 z.1) e0, hz]
/-- the model has found the fault that the class's run finds -/
def zBd (T : Nat → Int) (n : Nat) (s0 : St6) (H : HS) : Prop := ¬ (rn T n 601 0 s0).1 = 0 ∧ vi H 99 33 = iZ (rn T n 601 0 s0).1 ∧ vi H 99 34 = iZ (rn T n 601 0 s0).2.1
abbrev bdH (H : HS) (k pl : Int) : HS := wI (wI H 99 33 (iZ k)) 99 34 (iZ pl)
theorem zCf.bd {T : Nat → Int} {n pos : Nat} {s0 s : St6} {k : Int} {H : HS} (C : zCf T n s0 pos s) (hp : pos ≤ 600) (h : ¬ (tC T n pos = 21 ∧ s.1 = 0)) (hz : (zst (tC T n pos) (tV T n pos) s).1 = k) (hk : ¬ k = 0) : zBd T n s0 (bdH H k (tP T n pos : Nat)) := by
  obtain ⟨m, h1, h2⟩ := C
  obtain ⟨m', rfl⟩ : ∃ m', m = m' + 1 := ⟨m - 1, by omega⟩
  have e := rn_b (T := T) (n := n) (m := m') (pos := pos) (s := s) h (by rw [hz]; exact hk)
  subst hz
  unfold zBd
  rw [h2, e]
  exact ⟨hk, (vi_skip (by decide)).trans vi_same, vi_same⟩
/-- the model's steps -/
def zFE (H : HS) (g : List Stp2) : Prop := vi H 99 27 = iZ (g.length : Int) ∧ ∀ i, i < g.length → vi H 119 (2 * i) = nI (g.getD i (0, 0)).1 ∧ vi H 119 (2 * i + 1) = (g.getD i (0, 0)).2
theorem zFE.dx {P : Nat → Nat → Prop} {H H' : HS} {g : List Stp2} (E : zFE H g) (D : DX P H H') (h1 : ¬ P 99 27) (h2 : ∀ k, ¬ P 119 k) : zFE H' g :=
  ⟨(D.2.2.2 _ _ h1).trans E.1, fun i hi => ⟨(D.2.2.2 _ _ (h2 _)).trans (E.2 i hi).1, (D.2.2.2 _ _ (h2 _)).trans (E.2 i hi).2⟩⟩
theorem zFE.put {H : HS} {g : List Stp2} {k : Nat} {kk v : Int32} (E : zFE H g) (e : kk = nI k) : zFE (wI (wI (wI H 119 (2 * g.length) kk) 119 (2 * g.length + 1) v) 99 27 (iZ ((g.length : Int) + 1))) (g ++ [(k, v)]) := by
  refine ⟨by rw [vi_same, List.length_append]; rfl, fun i hi => ?_⟩
  rw [List.length_append] at hi
  have hi : i < g.length + 1 := hi
  by_cases c : i = g.length
  · subst c
    rw [List.getD_eq_getElem?_getD, List.getElem?_append_right (Nat.le_refl _), Nat.sub_self]
    exact ⟨((vi_skip (by omega)).trans ((vi_skip (by omega)).trans vi_same)).trans e, (vi_skip (by omega)).trans vi_same⟩
  · rw [List.getD_eq_getElem?_getD, List.getElem?_append_left (by omega), ← List.getD_eq_getElem?_getD]
    exact ⟨(vi_skip (by omega)).trans ((vi_skip (by omega)).trans ((vi_skip (by omega)).trans (E.2 i (by omega)).1)), (vi_skip (by omega)).trans ((vi_skip (by omega)).trans ((vi_skip (by omega)).trans (E.2 i (by omega)).2))⟩
/-- the model stands at the token at pos -/
def zMX (H : HS) (T : Nat → Int) (n pos : Nat) (g : List Stp2) (dep : Int) : Prop := TM H T n ∧ pos ≤ n ∧ (vi H 99 29 = iZ (tE T n pos : Nat) ∧ vi H 99 30 = iZ (mtk (tC T n pos)) ∧ vi H 99 31 = iZ (tP T n pos : Nat) ∧ (tC T n pos = 20 → vi H 99 32 = iZ (tV T n pos))) ∧ zFE H g ∧ vi H 99 36 = iZ dep
theorem zMX.F {H : HS} {T : Nat → Int} {n pos : Nat} {g : List Stp2} {dep : Int} (M : zMX H T n pos g dep) : TM H T n := M.1
theorem zMX.S {H : HS} {T : Nat → Int} {n pos : Nat} {g : List Stp2} {dep : Int} (M : zMX H T n pos g dep) : Shp H := M.1.1
theorem zMX.hn {H : HS} {T : Nat → Int} {n pos : Nat} {g : List Stp2} {dep : Int} (M : zMX H T n pos g dep) : n ≤ 600 := M.1.2.1
theorem zMX.hp {H : HS} {T : Nat → Int} {n pos : Nat} {g : List Stp2} {dep : Int} (M : zMX H T n pos g dep) : pos ≤ n := M.2.1
theorem zMX.e29 {H : HS} {T : Nat → Int} {n pos : Nat} {g : List Stp2} {dep : Int} (M : zMX H T n pos g dep) : vi H 99 29 = iZ (tE T n pos : Nat) := M.2.2.1.1
theorem zMX.e30 {H : HS} {T : Nat → Int} {n pos : Nat} {g : List Stp2} {dep : Int} (M : zMX H T n pos g dep) : vi H 99 30 = iZ (mtk (tC T n pos)) := M.2.2.1.2.1
theorem zMX.e31 {H : HS} {T : Nat → Int} {n pos : Nat} {g : List Stp2} {dep : Int} (M : zMX H T n pos g dep) : vi H 99 31 = iZ (tP T n pos : Nat) := M.2.2.1.2.2.1
theorem zMX.e32 {H : HS} {T : Nat → Int} {n pos : Nat} {g : List Stp2} {dep : Int} (M : zMX H T n pos g dep) (h : tC T n pos = 20) : vi H 99 32 = iZ (tV T n pos) := M.2.2.1.2.2.2 h
theorem zMX.fe {H : HS} {T : Nat → Int} {n pos : Nat} {g : List Stp2} {dep : Int} (M : zMX H T n pos g dep) : zFE H g := M.2.2.2.1
theorem zMX.e36 {H : HS} {T : Nat → Int} {n pos : Nat} {g : List Stp2} {dep : Int} (M : zMX H T n pos g dep) : vi H 99 36 = iZ dep := M.2.2.2.2
abbrev zPf (i k : Nat) : Prop := (i = 99 ∧ k = 27) ∨ i = 119
abbrev zPe (i k : Nat) : Prop := (i = 99 ∧ (k = 27 ∨ (29 ≤ k ∧ k ≤ 32) ∨ k = 36)) ∨ i = 119
abbrev zPb (i k : Nat) : Prop := (i = 99 ∧ (k = 27 ∨ (29 ≤ k ∧ k ≤ 34) ∨ k = 36)) ∨ i = 119
theorem zPeb {H H' : HS} (D : DX zPe H H') : DX zPb H H' := D.mono (fun i k z => by unfold zPe at z; unfold zPb; omega)
theorem zPm {H H' : HS} (D : DX Pm H H') : DX zPe H H' := D.mono (fun i k z => by unfold Pm at z; unfold zPe; omega)
theorem zPfe {H H' : HS} (D : DX zPf H H') : DX zPe H H' := D.mono (fun i k z => by unfold zPf at z; unfold zPe; omega)
theorem zBdd {H : HS} {k pl : Int} : DX zPb H (bdH H k pl) := ((DX.rf _ _).wI (by unfold zPb; omega)).wI (by unfold zPb; omega)
theorem zMX.lay {H H' : HS} {T : Nat → Int} {n pos : Nat} {g g' : List Stp2} {dep : Int} (M : zMX H T n pos g dep) (D : DX zPf H H') (E : zFE H' g') : zMX H' T n pos g' dep :=
  ⟨M.F.dx D (by unfold zPf; omega) (fun k => by unfold zPf; omega), M.hp, ⟨(D.2.2.2 _ _ (by unfold zPf; omega)).trans M.e29, (D.2.2.2 _ _ (by unfold zPf; omega)).trans M.e30, (D.2.2.2 _ _ (by unfold zPf; omega)).trans M.e31, fun z => (D.2.2.2 _ _ (by unfold zPf; omega)).trans (M.e32 z)⟩, E, (D.2.2.2 _ _ (by unfold zPf; omega)).trans M.e36⟩
theorem zMX.dep {H : HS} {T : Nat → Int} {n pos : Nat} {g : List Stp2} {dep e : Int} (M : zMX H T n pos g dep) : zMX (wI H 99 36 (iZ e)) T n pos g e := by
  have D : DX (fun i k => i = 99 ∧ k = 36) H (wI H 99 36 (iZ e)) := (DX.rf _ _).wI (by omega)
  exact ⟨M.F.dx D (by omega) (fun k => by omega), M.hp, ⟨(D.2.2.2 _ _ (by omega)).trans M.e29, (D.2.2.2 _ _ (by omega)).trans M.e30, (D.2.2.2 _ _ (by omega)).trans M.e31, fun z => (D.2.2.2 _ _ (by omega)).trans (M.e32 z)⟩, M.fe.dx D (by omega) (fun k => by omega), vi_same⟩
theorem zDep {H : HS} {e : Int} : DX zPe H (wI H 99 36 (iZ e)) := (DX.rf _ _).wI (by unfold zPe; omega)
/-- the codes of a line's steps -/
def zco (f : List Stp2) : List Int32 := f.flatMap stepC
theorem zco_app {f : List Stp2} {u : Stp2} : zco (f ++ [u]) = zco f ++ stepC u := by
  unfold zco
  rw [List.flatMap_append]
  simp
theorem stepC_len (u : Stp2) : 1 ≤ (stepC u).length := by
  unfold stepC
  split <;> simp
theorem zco_len : ∀ f : List Stp2, f.length ≤ (zco f).length
  | [] => Nat.le_refl _
  | u :: f => by
    have h1 := zco_len f
    have h2 := stepC_len u
    have e : zco (u :: f) = stepC u ++ zco f := by unfold zco; exact List.flatMap_cons
    rw [e, List.length_append, List.length_cons]
    omega
theorem stepC_f {k : Nat} {v : Int32} (h : 1 ≤ k ∧ k ≤ 7) : stepC (k, v) = [nI (10006 + k)] := by
  rcases (show k = 1 ∨ k = 2 ∨ k = 3 ∨ k = 4 ∨ k = 5 ∨ k = 6 ∨ k = 7 by omega) with rfl | rfl | rfl | rfl | rfl | rfl | rfl <;> rfl
theorem tyR_app (u : Stp2) : ∀ (f : List Stp2) (st : List Bool), tyR (f ++ [u]) st = (tyR f st).bind (fun t => tyS t u)
  | [], st => by
    show (tyS st u).bind (tyR []) = tyS st u
    cases tyS st u <;> rfl
  | a :: f, st => by
    show (tyS st a).bind (tyR (f ++ [u])) = ((tyS st a).bind (tyR f)).bind (fun t => tyS t u)
    cases tyS st a with
    | none => rfl
    | some t => exact tyR_app u f t
theorem ty_lay {f : List Stp2} {u : Stp2} {ts ts' : List Bool} (h : tyR f [] = some ts) (e : tyS ts u = some ts') : tyR (f ++ [u]) [] = some ts' := by
  rw [tyR_app, h]
  exact e
theorem tyS_n {ts : List Bool} {v : Int} (h : ts.length < 40) (hv : 0 ≤ v ∧ v ≤ 9999) : tyS ts (0, iZ v) = some (false :: ts) := by
  unfold tyS
  have e : (iZ v).toInt = v := iZ_t (by omega)
  rw [if_pos rfl, if_pos (show 0 ≤ (iZ v).toInt ∧ (iZ v).toInt ≤ 9999 ∧ ts.length < 40 by rw [e]; omega)]
theorem tyS_f {ts : List Bool} {k : Nat} {v : Int32} (h : ts.length < 40) (hk : 1 ≤ k ∧ k ≤ 7) : tyS ts (k, v) = some (false :: ts) := by
  unfold tyS
  rw [if_neg (show ¬ k = 0 by omega), if_pos (show k ≤ 7 by omega), if_pos h]
theorem tyS_p {ts : List Bool} {v : Int} (h : ts.length + 1 < 40) (hv : 1 ≤ v ∧ v ≤ 9999) : tyS (false :: ts) (11, iZ v) = some (false :: ts) := by
  have e : (iZ v).toInt = v := iZ_t (by omega)
  show (if 1 ≤ (iZ v).toInt ∧ (iZ v).toInt ≤ 9999 ∧ ts.length + 1 < 40 then some (false :: ts) else none) = _
  rw [if_pos (by rw [e]; omega)]
theorem tyS_a {ts : List Bool} {k : Nat} {v : Int32} (hk : k = 8 ∨ k = 9 ∨ k = 10) : tyS (false :: false :: ts) (k, v) = some (false :: ts) := by
  rcases hk with rfl | rfl | rfl <;> rfl
theorem tyS_c {ts : List Bool} {k : Nat} {v : Int32} (hk : k = 12 ∨ k = 13 ∨ k = 14) : tyS (false :: false :: ts) (k, v) = some (true :: ts) := by
  rcases hk with rfl | rfl | rfl <;> rfl
theorem tyS_o {ts : List Bool} {k : Nat} {v : Int32} (hk : k = 16 ∨ k = 17) : tyS (true :: true :: ts) (k, v) = some (true :: ts) := by
  rcases hk with rfl | rfl <;> rfl
theorem tyS_t {ts : List Bool} {v : Int32} : tyS (true :: ts) (15, v) = some (true :: ts) := rfl
/-- nothing on top of W binds so strongly -/
def ztp (r : Int) : List Int → Prop
  | [] => True
  | t :: _ => zrk t < r
theorem ztp_r {r : Int} {W : List Int} {o : List Int32} (h : ztp r W) : zrel r W o = (W, o) := by
  cases W with
  | nil => rfl
  | cons t W => exact zrel_f (by have h : zrk t < r := h; omega)
theorem ztp_m {r r' : Int} {W : List Int} (h : ztp r W) (hr : r ≤ r') : ztp r' W := by
  cases W with
  | nil => trivial
  | cons t W => exact Int.lt_of_lt_of_le h hr
theorem zrel2 {r r' : Int} (hr : r ≤ r') : ∀ (W : List Int) (o : List Int32), zrel r (zrel r' W o).1 (zrel r' W o).2 = zrel r W o
  | [], _ => rfl
  | t :: W, o => by
    by_cases h : r' ≤ zrk t
    · rw [zrel_t h, zrel_t (r := r) (by omega)]
      exact zrel2 hr W _
    · rw [zrel_f h]
theorem zrel_w {r r' : Int} {W W' : List Int} {o o' : List Int32} (hr : r ≤ r') (h : zrel r' W' o' = zrel r' W o) : zrel r W' o' = zrel r W o := by
  rw [← zrel2 hr W' o', h, zrel2 hr]
theorem zrel_b {r : Int} (hr : 1 ≤ r) : ∀ (W : List Int) (o : List Int32), zbr (zrel r W o).1 = zbr W
  | [], _ => rfl
  | t :: W, o => by
    by_cases h : r ≤ zrk t
    · rw [zrel_t h, zrel_b hr W]
      have h140 : ¬ t = 140 := fun z => by
        rw [z] at h
        have : zrk 140 = 0 := rfl
        omega
      show zbr W = zbr W + (if t = 140 then 1 else 0)
      rw [if_neg h140]; omega
    · rw [zrel_f h]
theorem zadd_a {o : List Int32} {v : Int32} (h : o.length < 600) : zadd o v = o ++ [v] := if_pos h
theorem zpsh_a {W : List Int} {c : Int} (h : W.length < 40) : zpsh W c = c :: W := if_pos h
/-- an operator that waits goes out when it is laid -/
theorem zrel_lay {r c : Int} {W W' : List Int} {o' : List Int32} {O0 : List Int32} {f : List Stp2} {u : Stp2} (hc : r ≤ zrk c) (h : zrel r W' o' = zrel r (c :: W) (O0 ++ zco f)) (hu : stepC u = [iZ (10000 + c)]) (hl : (O0 ++ zco f).length < 600) : zrel r W' o' = zrel r W (O0 ++ zco (f ++ [u])) := by
  rw [h, zrel_t hc, zadd_a hl, zco_app, hu, List.append_assoc]
theorem zlen1 {O0 : List Int32} {f : List Stp2} {u : Stp2} {v : Int32} (hu : stepC u = [v]) : (O0 ++ zco (f ++ [u])).length = (O0 ++ zco f).length + 1 := by
  rw [zco_app, hu, ← List.append_assoc, List.length_append]; rfl
theorem zsteps {g0 : List Stp2} {O0 : List Int32} {f : List Stp2} (hg : g0.length ≤ O0.length) (h : (O0 ++ zco f).length ≤ 600) : (g0 ++ f).length < 610 := by
  have := zco_len f
  rw [List.length_append] at h ⊢
  omega
/-- where the class's automaton goes -/
theorem z_prod {c v vd cm : Int} {W W' : List Int} {o o' : List Int32} {L : Nat} (hc : c = 142 ∨ c = 147) (hr : zrel 6 W' o' = zrel 6 W o) (ht : ztp 6 W) (hl : W.length < 40) : zst c v (5, vd, cm, W', o', L) = (0, ((if c = 147 then 4 else 3), vd, cm, c :: W, o, L)) := by
  have e6 : zrk c = 6 := by rcases hc with rfl | rfl <;> rfl
  show zfol c (5, vd, cm, W', o', L) = _
  unfold zfol
  rw [if_pos ⟨rfl, Or.inr e6⟩, e6]
  unfold zjoint
  show ((0 : Int), ((if c = 147 then (4 : Int) else 3), vd, cm, zpsh (zrel 6 W' o').1 c, (zrel 6 W' o').2, L)) = _
  rw [hr, ztp_r ht, zpsh_a hl]
theorem z_sum {c v vd cm : Int} {W W' : List Int} {o o' : List Int32} {L : Nat} (hc : c = 143 ∨ c = 145) (hr : zrel 5 W' o' = zrel 5 W o) (ht : ztp 5 W) (hl : W.length < 40) : zst c v (5, vd, cm, W', o', L) = (0, (3, vd, cm, c :: W, o, L)) := by
  have e6 : zrk c = 5 := by rcases hc with rfl | rfl <;> rfl
  show zfol c (5, vd, cm, W', o', L) = _
  unfold zfol
  rw [if_pos ⟨rfl, Or.inl e6⟩, e6, if_neg (show ¬ c = 147 by omega)]
  unfold zjoint
  show ((0 : Int), ((3 : Int), vd, cm, zpsh (zrel 5 W' o').1 c, (zrel 5 W' o').2, L)) = _
  rw [hr, ztp_r ht, zpsh_a hl]
theorem z_cmp {c v vd : Int} {W W' : List Int} {o o' : List Int32} {L : Nat} (hc : c = 160 ∨ c = 161 ∨ c = 162) (hr : zrel 4 W' o' = zrel 4 W o) (ht : ztp 4 W) (hl : W.length < 40) : zst c v (5, vd, 0, W', o', L) = (0, (3, vd, 1, c :: W, o, L)) := by
  have e6 : zrk c = 4 := by rcases hc with rfl | rfl | rfl <;> rfl
  show zfol c (5, vd, 0, W', o', L) = _
  unfold zfol
  rw [if_neg (by rw [e6]; omega), if_pos ⟨rfl, e6, rfl⟩, e6]
  unfold zjoint
  show ((0 : Int), ((3 : Int), vd, (1 : Int), zpsh (zrel 4 W' o').1 c, (zrel 4 W' o').2, L)) = _
  rw [hr, ztp_r ht, zpsh_a hl]
/-- a whole condition stands -/
def zWh (T : Nat → Int) (n pos : Nat) (st cm : Int) : Prop := st = 6 ∨ (st = 5 ∧ ¬ cm = 0 ∧ ¬ tC T n pos = 142 ∧ ¬ tC T n pos = 147 ∧ ¬ tC T n pos = 143 ∧ ¬ tC T n pos = 145)
theorem z_log {T : Nat → Int} {n pos : Nat} {v vd st cm r : Int} {W W' : List Int} {o o' : List Int32} {L : Nat} (hw : zWh T n pos st cm) (hc : (tC T n pos = 4 ∧ r = 1) ∨ (tC T n pos = 5 ∧ r = 2)) (hr : zrel r W' o' = zrel r W o) (ht : ztp r W) (hl : W.length < 40) : zst (tC T n pos) v (st, vd, cm, W', o', L) = (0, (2, vd, cm, tC T n pos :: W, o, L)) := by
  have e6 : zrk (tC T n pos) = r := by rcases hc with ⟨h, rfl⟩ | ⟨h, rfl⟩ <;> rw [h] <;> rfl
  have h5 : st = 5 ∨ st = 6 := by rcases hw with h | h <;> omega
  have hcm : st = 6 ∨ ¬ cm = 0 := by rcases hw with h | h <;> omega
  have e : zst (tC T n pos) v (st, vd, cm, W', o', L) = zfol (tC T n pos) (st, vd, cm, W', o', L) := by rcases h5 with rfl | rfl <;> rfl
  rw [e]
  unfold zfol
  rw [if_neg (by rw [e6]; omega), if_neg (by rw [e6]; omega), if_pos ⟨hcm, by rw [e6]; omega⟩, e6]
  unfold zjoint
  show ((0 : Int), ((2 : Int), vd, cm, zpsh (zrel r W' o').1 (tC T n pos), (zrel r W' o').2, L)) = _
  rw [hr, ztp_r ht, zpsh_a hl]
theorem z_close {T : Nat → Int} {n pos : Nat} {v vd st cm : Int} {W W' : List Int} {o o' : List Int32} {L : Nat} (hw : zWh T n pos st cm) (hc : tC T n pos = 141) (hr : zrel 1 W' o' = zrel 1 (140 :: W) o) (hb : 0 ≤ zbr W) : zst (tC T n pos) v (st, vd, cm, W', o', L) = (0, (6, vd, cm, W, o, L)) := by
  have e6 : zrk (tC T n pos) = 0 := by rw [hc]; rfl
  have h5 : st = 5 ∨ st = 6 := by rcases hw with h | h <;> omega
  have hcm : st = 6 ∨ ¬ cm = 0 := by rcases hw with h | h <;> omega
  have e : zst (tC T n pos) v (st, vd, cm, W', o', L) = zfol (tC T n pos) (st, vd, cm, W', o', L) := by rcases h5 with rfl | rfl <;> rfl
  have hz : zbr W' = zbr W + 1 := by
    have := zrel_b (r := 1) (by omega) W' o'
    rw [hr, zrel_b (by omega)] at this
    exact this.symm
  rw [e]
  unfold zfol
  rw [if_neg (by rw [e6]; omega), if_neg (by rw [e6]; omega), if_neg (by rw [e6]; omega), if_pos ⟨hcm, hc, show 0 < zbr W' by omega⟩]
  unfold zclose
  show ((0 : Int), ((6 : Int), vd, cm, (zrel 1 W' o').1.tail, (zrel 1 W' o').2, L)) = _
  rw [hr, zrel_f (show ¬ 1 ≤ zrk 140 by decide)]
  rfl
theorem z_line {T : Nat → Int} {n pos : Nat} {v vd st cm : Int} {W' : List Int} {o o' : List Int32} {L : Nat} (hw : zWh T n pos st cm) (hc : tC T n pos = 159) (hr : zrel 1 W' o' = zrel 1 [] o) (hl : o.length < 600) : zst (tC T n pos) v (st, vd, cm, W', o', L) = (0, (0, vd, cm, [], o ++ [iZ (20000 + vd)], L + 1)) := by
  have e6 : zrk (tC T n pos) = 0 := by rw [hc]; rfl
  have h5 : st = 5 ∨ st = 6 := by rcases hw with h | h <;> omega
  have hcm : st = 6 ∨ ¬ cm = 0 := by rcases hw with h | h <;> omega
  have e : zst (tC T n pos) v (st, vd, cm, W', o', L) = zfol (tC T n pos) (st, vd, cm, W', o', L) := by rcases h5 with rfl | rfl <;> rfl
  have hz : zbr W' = 0 := by
    have := zrel_b (r := 1) (by omega) W' o'
    rw [hr, zrel_b (by omega)] at this
    exact this.symm
  rw [e]
  unfold zfol
  rw [if_neg (by rw [e6]; omega), if_neg (by rw [e6]; omega), if_neg (by rw [e6]; omega), if_neg (by rw [hc]; omega), if_pos ⟨hcm, hc, hz⟩]
  unfold zline
  show ((0 : Int), ((0 : Int), vd, cm, (zrel 1 W' o').1, zadd (zrel 1 W' o').2 (iZ (20000 + vd)), L + 1)) = _
  rw [hr]
  show ((0 : Int), ((0 : Int), vd, cm, ([] : List Int), zadd o (iZ (20000 + vd)), L + 1)) = _
  rw [zadd_a hl]
/-- nothing fits -/
theorem z_stop {T : Nat → Int} {n pos : Nat} {v vd st cm : Int} {W' : List Int} {o' : List Int32} {L : Nat} (hw : zWh T n pos st cm) (h4 : ¬ tC T n pos = 4) (h5' : ¬ tC T n pos = 5) (hb : ¬ (tC T n pos = 141 ∧ 0 < zbr W')) (hq : ¬ (tC T n pos = 159 ∧ zbr W' = 0)) : (zst (tC T n pos) v (st, vd, cm, W', o', L)).1 = 1 := by
  have h5 : st = 5 ∨ st = 6 := by rcases hw with h | h <;> omega
  have e : zst (tC T n pos) v (st, vd, cm, W', o', L) = zfol (tC T n pos) (st, vd, cm, W', o', L) := by rcases h5 with rfl | rfl <;> rfl
  have k1 : ¬ zrk (tC T n pos) = 1 := by unfold zrk; (repeat' split) <;> omega
  have k2 : ¬ zrk (tC T n pos) = 2 := by unfold zrk; (repeat' split) <;> omega
  have k56 : ¬ (st = 5 ∧ (zrk (tC T n pos) = 5 ∨ zrk (tC T n pos) = 6)) := by
    rintro ⟨ha, hb⟩
    rcases hw with h | h
    · omega
    · unfold zrk at hb
      rcases hb with hb | hb <;> ((repeat' split at hb) <;> omega)
  have k4 : ¬ (st = 5 ∧ zrk (tC T n pos) = 4 ∧ cm = 0) := by rintro ⟨ha, -, hc⟩; rcases hw with h | h <;> omega
  rw [e]
  unfold zfol
  rw [if_neg k56, if_neg k4, if_neg (fun z => by have := z.2; omega), if_neg (fun z => hb z.2), if_neg (fun z => hq z.2)]
/-- what follows a sum that isn't compared yet -/
theorem z_nocmp {c v vd : Int} {W' : List Int} {o' : List Int32} {L : Nat} (h1 : ¬ c = 142) (h2 : ¬ c = 147) (h3 : ¬ c = 143) (h4 : ¬ c = 145) (h5 : ¬ (c = 160 ∨ c = 161 ∨ c = 162)) : (zst c v (5, vd, 0, W', o', L)).1 = 1 := by
  have k : ¬ zrk c = 4 ∧ ¬ zrk c = 5 ∧ ¬ zrk c = 6 := by unfold zrk; (repeat' split) <;> omega
  show (zfol c (5, vd, 0, W', o', L)).1 = 1
  unfold zfol
  rw [if_neg (by omega), if_neg (by omega), if_neg (fun z => by rcases z.1 with y | y; exact absurd (show (5 : Int) = 6 from y) (by decide); exact y rfl), if_neg (fun z => by rcases z.1 with y | y; exact absurd (show (5 : Int) = 6 from y) (by decide); exact y rfl), if_neg (fun z => by rcases z.1 with y | y; exact absurd (show (5 : Int) = 6 from y) (by decide); exact y rfl)]
theorem z_open {c v vd cm : Int} {W : List Int} {o : List Int32} {L : Nat} (hc : c = 6 ∨ c = 140) (h8 : zop W < 8) (hl : W.length < 40) : zst c v (2, vd, cm, W, o, L) = (0, (2, vd, cm, c :: W, o, L)) := by
  show zcon c v (2, vd, cm, W, o, L) = _
  unfold zcon
  rw [if_pos hc, if_neg (show ¬ 8 ≤ zop W by omega)]
  show ((0 : Int), ((2 : Int), vd, cm, zpsh W c, o, L)) = _
  rw [zpsh_a hl]
theorem z_full {c v vd cm : Int} {W : List Int} {o : List Int32} {L : Nat} (hc : c = 6 ∨ c = 140) (h8 : 8 ≤ zop W) : (zst c v (2, vd, cm, W, o, L)).1 = 3 := by
  show (zcon c v (2, vd, cm, W, o, L)).1 = 3
  unfold zcon
  rw [if_pos hc, if_pos h8]
theorem z_u2 {c v vd cm : Int} {W : List Int} {o : List Int32} {L : Nat} (hc : ¬ (c = 6 ∨ c = 140)) : zst c v (2, vd, cm, W, o, L) = zunit c v (2, vd, 0, W, o, L) := by
  show zcon c v (2, vd, cm, W, o, L) = _
  unfold zcon
  rw [if_neg hc]
theorem z_u3 {c v vd cm : Int} {W : List Int} {o : List Int32} {L : Nat} : zst c v (3, vd, cm, W, o, L) = zunit c v (3, vd, cm, W, o, L) := rfl
theorem zop_o {c : Int} {W : List Int} (hc : c = 6 ∨ c = 140) : zop (c :: W) = zop W + 1 := by
  show zop W + (if _ then 1 else 0) = _
  rw [if_pos hc]
theorem zop_n {c : Int} {W : List Int} (hc : ¬ (c = 6 ∨ c = 140)) : zop (c :: W) = zop W := by
  show zop W + (if _ then 1 else 0) = _
  rw [if_neg hc]; omega
