/-! RULES as both sides hold them: lines of (verdict, steps); a step (k, v) as the model lays it -/
abbrev Stp2 : Type := Nat × Int32
def stepC (s : Stp2) : List Int32 := match s.1 with
  | 0 => [s.2]
  | 8 => [10143]
  | 9 => [10145]
  | 10 => [10142]
  | 11 => [s.2, 10147]
  | 12 => [10160]
  | 13 => [10161]
  | 14 => [10162]
  | 15 => [10006]
  | 16 => [10005]
  | 17 => [10004]
  | k => [nI (10006 + k)]
abbrev Lin : Type := Nat × List Stp2
def lineC (l : Lin) : List Int32 := l.2.flatMap stepC ++ [nI (20000 + l.1)]
def codesC (p : List Lin) : List Int32 := p.flatMap lineC
def stepsM (p : List Lin) : List Stp2 := p.flatMap (·.2)
/-- the kinds on the stack (true: a truth) behind a step; none where it doesn't fit -/
def tyS (st : List Bool) (s : Stp2) : Option (List Bool) :=
  if s.1 = 0 then (if 0 ≤ s.2.toInt ∧ s.2.toInt ≤ 9999 ∧ st.length < 40 then some (false :: st) else none)
  else if s.1 ≤ 7 then (if st.length < 40 then some (false :: st) else none)
  else if s.1 = 11 then (match st with
    | false :: r => if 1 ≤ s.2.toInt ∧ s.2.toInt ≤ 9999 ∧ r.length + 1 < 40 then some (false :: r) else none
    | _ => none)
  else if s.1 ≤ 10 then (match st with
    | false :: false :: r => some (false :: r)
    | _ => none)
  else if s.1 ≤ 14 then (match st with
    | false :: false :: r => some (true :: r)
    | _ => none)
  else if s.1 = 15 then (match st with
    | true :: r => some (true :: r)
    | _ => none)
  else if s.1 ≤ 17 then (match st with
    | true :: true :: r => some (true :: r)
    | _ => none)
  else none
def tyR : List Stp2 → List Bool → Option (List Bool)
  | [], st => some st
  | s :: r, st => (tyS st s).bind (tyR r)
def goodL (l : Lin) : Prop := 1 ≤ l.1 ∧ l.1 ≤ 3 ∧ tyR l.2 [] = some [true]
def goodP (p : List Lin) : Prop := p.length ≤ 16 ∧ (codesC p).length ≤ 600 ∧ (stepsM p).length ≤ 600 ∧ ∀ l ∈ p, goodL l
def EncC (h : HS) (q : Nat) (p : List Lin) : Prop := vi h q 1 = nI (codesC p).length ∧ vi h q 2 = nI p.length ∧ ∀ i, i < (codesC p).length → vi h (q + 1) i = (codesC p).getD i 0
def EncM (h : HS) (p : List Lin) : Prop := vi h 99 25 = nI p.length ∧ (∀ l, l < p.length → vi h 120 l = nI (p.getD l (0, [])).1) ∧ (∀ l, l ≤ p.length → vi h 121 l = nI (stepsM (p.take l)).length) ∧
  ∀ i, i < (stepsM p).length → vi h 118 (2 * i) = nI ((stepsM p).getD i (0, 0)).1 ∧ vi h 118 (2 * i + 1) = ((stepsM p).getD i (0, 0)).2
def RG (h : HS) : Prop := ∃ (q q' : Nat) (p : List Lin), (q = 74 ∧ q' = 77 ∨ q = 77 ∧ q' = 74) ∧ ri h 71 15 = some q ∧ ri h 71 16 = some q' ∧ goodP p ∧ EncC h q p ∧ EncM h p
def fpG (i k : Nat) : Bool := (i == 71 && (k == 15 || k == 16)) || (Nat.ble 74 i && Nat.ble i 79) || (i == 99 && k == 25) || i == 118 || i == 120 || i == 121
theorem RG.fr {h h' : HS} (R : RG h) (s : SameOn fpG h h') : RG h' := by
  obtain ⟨q, q', p, hq, h1, h2, h3, ⟨c1, c2, c3⟩, m1, m2, m3, m4⟩ := R
  have e1 : ∀ i, vi h' 118 i = vi h 118 i := fun i => (s 118 i rfl).1
  have e2 : ∀ i, vi h' 120 i = vi h 120 i := fun i => (s 120 i rfl).1
  have e3 : ∀ i, vi h' 121 i = vi h 121 i := fun i => (s 121 i rfl).1
  refine ⟨q, q', p, hq, by rw [(s 71 15 rfl).2]; exact h1, by rw [(s 71 16 rfl).2]; exact h2, h3, ?_, by rw [(s 99 25 rfl).1]; exact m1, fun l hl => by rw [e2]; exact m2 l hl, fun l hl => by rw [e3]; exact m3 l hl, fun i hi => by rw [e1, e1]; exact m4 i hi⟩
  rcases hq with ⟨rfl, -⟩ | ⟨rfl, -⟩
  · exact ⟨by rw [(s 74 1 rfl).1]; exact c1, by rw [(s 74 2 rfl).1]; exact c2, fun i hi => by rw [(s 75 i rfl).1]; exact c3 i hi⟩
  · exact ⟨by rw [(s 77 1 rfl).1]; exact c1, by rw [(s 77 2 rfl).1]; exact c2, fun i hi => by rw [(s 78 i rfl).1]; exact c3 i hi⟩
/-- THE INVARIANT -/
def Inv (h : HS) : Prop := Shp h ∧ RD h ∧ RW h ∧ RP h ∧ RE h ∧ RF h ∧ RT h ∧ RG h ∧ RC h ∧ RQ h
/-- a write of an int into a static cell that none of the relations rests on but those that are shown anew -/
theorem stat_C {h : HS} {i k : Nat} {v : Int32} (R : RC h) (hi : i < 142) (e : fpC i k = false) : RC (wI h i k v) :=
  R.fr ((SameOn.rf _ _).wI e) (Nat.le_refl _) (fun _ _ => rfl) (fun j hj _ _ b => ⟨by rw [vi_wI, if_neg (by omega)], rfl⟩)
theorem stat_Q {h : HS} {i k : Nat} {v : Int32} (R : RQ h) (hi : i < 142) (e : fpQ i k = false) : RQ (wI h i k v) :=
  R.fr ((SameOn.rf _ _).wI e) (Nat.le_refl _) (fun _ _ => rfl) (fun j hj _ _ b => ⟨by rw [vi_wI, if_neg (by omega)], rfl⟩)
theorem Inv.S {h : HS} (I : Inv h) : Shp h := I.1
theorem Inv.D {h : HS} (I : Inv h) : RD h := I.2.1
theorem Inv.W {h : HS} (I : Inv h) : RW h := I.2.2.1
theorem Inv.P {h : HS} (I : Inv h) : RP h := I.2.2.2.1
theorem Inv.E {h : HS} (I : Inv h) : RE h := I.2.2.2.2.1
theorem Inv.F {h : HS} (I : Inv h) : RF h := I.2.2.2.2.2.1
theorem Inv.T {h : HS} (I : Inv h) : RT h := I.2.2.2.2.2.2.1
theorem Inv.G {h : HS} (I : Inv h) : RG h := I.2.2.2.2.2.2.2.1
theorem Inv.C {h : HS} (I : Inv h) : RC h := I.2.2.2.2.2.2.2.2.1
theorem Inv.Q {h : HS} (I : Inv h) : RQ h := I.2.2.2.2.2.2.2.2.2
