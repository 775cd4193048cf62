/-! pair: joined -/
theorem viS {h : HS} {i a k : Nat} {f : Nat → Int32} (e : a ≠ i) : vi (setR h i f) a k = vi h a k := by
  show (if a = i then f k else _) = _; rw [if_neg e]; rfl
theorem SameOn.setR {P : Nat → Nat → Bool} {h : HS} {i : Nat} {f : Nat → Int32} (e : ∀ k, P i k = false) : SameOn P h (setR h i f) := by
  intro x y hx
  refine ⟨viS (fun q => ?_), rfl⟩
  rw [q, e y] at hx; cases hx
theorem Inv.set {h : HS} (I : Inv h) {i : Nat} {f : Nat → Int32} (hi : i = 94 ∨ i = 141) : Inv (setR h i f) := by
  rcases hi with rfl | rfl
  · exact ⟨I.S, I.D.fr (SameOn.setR fun _ => rfl), I.W.fr (SameOn.setR fun _ => rfl), I.P.fr (SameOn.setR fun _ => rfl), I.E.fr (SameOn.setR fun _ => rfl), I.F.fr (SameOn.setR fun _ => rfl), I.T.fr (SameOn.setR fun _ => rfl), I.G.fr (SameOn.setR fun _ => rfl), I.C.fr (SameOn.setR fun _ => rfl) (Nat.le_refl _) (fun _ _ => rfl) (fun j hj _ _ b => ⟨viS (by omega), rfl⟩), I.Q.fr (SameOn.setR fun _ => rfl) (Nat.le_refl _) (fun _ _ => rfl) (fun j hj _ _ b => ⟨viS (by omega), rfl⟩)⟩
  · exact ⟨I.S, I.D.fr (SameOn.setR fun _ => rfl), I.W.fr (SameOn.setR fun _ => rfl), I.P.fr (SameOn.setR fun _ => rfl), I.E.fr (SameOn.setR fun _ => rfl), I.F.fr (SameOn.setR fun _ => rfl), I.T.fr (SameOn.setR fun _ => rfl), I.G.fr (SameOn.setR fun _ => rfl), I.C.fr (SameOn.setR fun _ => rfl) (Nat.le_refl _) (fun _ _ => rfl) (fun j hj _ _ b => ⟨viS (by omega), rfl⟩), I.Q.fr (SameOn.setR fun _ => rfl) (Nat.le_refl _) (fun _ _ => rfl) (fun j hj _ _ b => ⟨viS (by omega), rfl⟩)⟩
def nrj (h : HS) (H R Z : Int) (i j : Nat) : Bool := decide (((((vi h 84 i).toInt - (vi h 90 j).toInt).natAbs : Nat) : Int) ≤ H ∧ ((((vi h 87 i).toInt - (vi h 93 j).toInt).natAbs : Nat) : Int) ≤ Z ∧ dz ((vi h 85 i).toInt - (vi h 91 j).toInt) ((vi h 86 i).toInt - (vi h 92 j).toInt) ≤ R)
def fj (q : Nat → Bool) : Nat → Nat → Option Nat
  | 0, _ => none
  | m + 1, j => if q j = true then some j else fj q m (j + 1)
theorem fj_t {q : Nat → Bool} {m j : Nat} (h : q j = true) : fj q (m + 1) j = some j := by show (if _ then _ else _) = _; rw [if_pos h]
theorem fj_f {q : Nat → Bool} {m j : Nat} (h : ¬ q j = true) : fj q (m + 1) j = fj q m (j + 1) := by show (if _ then _ else _) = _; rw [if_neg h]
theorem fj_lt {q : Nat → Bool} : ∀ {m j x : Nat}, fj q m j = some x → x < j + m
  | 0, j, x, h => by cases h
  | m + 1, j, x, h => by
    by_cases c : q j = true
    · rw [fj_t c] at h; cases h; omega
    · rw [fj_f c] at h; have := fj_lt h; omega
def qj (t : Nat → Bool) (nr : Nat → Nat → Bool) (i j : Nat) : Bool := !t j && nr i j
def putB (t : Nat → Bool) (x : Nat) : Nat → Bool := fun k => if k = x then true else t k
def jn (nr : Nat → Nat → Bool) (n1 : Nat) : Nat → Nat → (Nat → Bool) → Int → Int
  | 0, _, _, a => a
  | m + 1, i, t, a => match fj (qj t nr i) n1 0 with
    | none => jn nr n1 m (i + 1) t a
    | some x => jn nr n1 m (i + 1) (putB t x) (a + (-1))
theorem jn_n {nr : Nat → Nat → Bool} {n1 m i : Nat} {t : Nat → Bool} {a : Int} (h : fj (qj t nr i) n1 0 = none) : jn nr n1 (m + 1) i t a = jn nr n1 m (i + 1) t a := by show (match fj (qj t nr i) n1 0 with | none => _ | some x => _) = _; rw [h]
theorem jn_s {nr : Nat → Nat → Bool} {n1 m i x : Nat} {t : Nat → Bool} {a : Int} (h : fj (qj t nr i) n1 0 = some x) : jn nr n1 (m + 1) i t a = jn nr n1 m (i + 1) (putB t x) (a + (-1)) := by show (match fj (qj t nr i) n1 0 with | none => _ | some x => _) = _; rw [h]
def Tk (t : Nat → Bool) (u : Nat → Int32) (n : Nat) : Prop := ∀ k, k < n → u k = iZ (if t k = true then 1 else 0)
theorem Tk.put {t : Nat → Bool} {u : Nat → Int32} {n x : Nat} (T : Tk t u n) : Tk (putB t x) (upd u x (iZ 1)) n := by
  intro k hk
  unfold putB upd
  by_cases c : k = x
  · simp [c]
  · simp [c]; exact T k hk
theorem qj_t {t : Nat → Bool} {nr : Nat → Nat → Bool} {i j : Nat} (h1 : ¬ t j = true) (h2 : nr i j = true) : qj t nr i j = true := by unfold qj; simp at h1; simp [h1, h2]
theorem qj_f {t : Nat → Bool} {nr : Nat → Nat → Bool} {i j : Nat} (h : t j = true ∨ ¬ nr i j = true) : ¬ qj t nr i j = true := by unfold qj; rcases h with h | h <;> simp [h]
set_option maxRecDepth 20000 in
set_option maxHeartbeats 1000000 in
theorem free_loop {G : GC} {d mc ms : Nat} {h : HS} {K : Option Value → HS → Prop} {n : Nat} (S : Shp h) (hn : n ≤ 100) (en : vi h 89 5 = iZ (n : Int)) (hk : ∀ u, Tk (fun _ => false) u n → K none (setR h 94 u)) : ∀ (m i : Nat) (u : Nat → Int32), i + m = n → Tk (fun _ => false) u i → Go G d mc ms M_X1_freeAll 2 [.ref 89, .int (iZ (i : Int))] [] (setR h 94 u) K := by
  intro m
  induction m with
  | zero =>
    intro i u hi hu
    refine Go_iload_n (pc' := 3) dX1_freeAll_2 rfl rfl rfl ?_
    refine Go_aload_n (pc' := 4) dX1_freeAll_3 rfl rfl rfl ?_
    refine Go_getIv (v := (iZ (n : Int))) (pc' := 7) dX1_freeAll_4 rfl kf_RX1_28 (by decide) (by decide) rfl (S.b 89 rfl rfl) (S.o 89 rfl rfl rfl) ((viS (by decide)).trans en) ?_
    refine Go_icmp_geY (tgt := 23) (pc' := 10) dX1_freeAll_7 (by decide) rfl (by first | exact ⟨i_lo _, i_hi _⟩ | omega) (by first | exact ⟨i_lo _, i_hi _⟩ | omega) (fun c7 => ?_) (fun c7 => by exfalso; omega)
    refine Go_return dX1_freeAll_23 rfl ?_
    exact hk u (by rw [show n = i by omega]; exact hu)
  | succ m ih =>
    intro i u hi hu
    refine Go_iload_n (pc' := 3) dX1_freeAll_2 rfl rfl rfl ?_
    refine Go_aload_n (pc' := 4) dX1_freeAll_3 rfl rfl rfl ?_
    refine Go_getIv (v := (iZ (n : Int))) (pc' := 7) dX1_freeAll_4 rfl kf_RX1_28 (by decide) (by decide) rfl (S.b 89 rfl rfl) (S.o 89 rfl rfl rfl) ((viS (by decide)).trans en) ?_
    refine Go_icmp_geY (tgt := 23) (pc' := 10) dX1_freeAll_7 (by decide) rfl (by first | exact ⟨i_lo _, i_hi _⟩ | omega) (by first | exact ⟨i_lo _, i_hi _⟩ | omega) (fun c7 => by exfalso; omega) (fun c7 => ?_)
    refine Go_aload_n (pc' := 11) dX1_freeAll_10 rfl rfl rfl ?_
    refine Go_getRs (pc' := 14) dX1_freeAll_11 rfl kf_RX1_24 (by decide) (by decide) rfl (S.b 89 rfl rfl) (S.o 89 rfl rfl rfl) (S.r 89 4 rfl rfl rfl) ?_
    refine Go_iload_n (pc' := 15) dX1_freeAll_14 rfl rfl rfl ?_
    refine Go_iconst (v := iZ 0) (pc' := 16) dX1_freeAll_15 rfl (by decide) ?_
    refine Go_bastoreZ (n := 100) (k := i) (pc' := 17) dX1_freeAll_16 rfl (S.b 94 rfl rfl) (S.k 94 rfl rfl rfl) rfl (by omega) (by decide) (by decide) ?_
    refine Go_iincZ (pc' := 20) (lv' := [.ref _, .int _]) dX1_freeAll_17 rfl rfl (Nat.le_of_ble_eq_true rfl) rfl rfl ?_
    refine Go_goto (tgt := 2) dX1_freeAll_20 (by decide) ?_
    rw [setR_wI]
    refine ih (i + 1) _ (by omega) (fun k hk => ?_)
    unfold upd
    by_cases c : k = i
    · simp [c]
    · simp [c]; exact hu k (by omega)
set_option maxRecDepth 20000 in
set_option maxHeartbeats 1000000 in
theorem ts_loop {G : GC} {d mc ms : Nat} {h : HS} {K : Option Value → HS → Prop} {n0 n1 : Nat} {H R Z : Int} (S : Shp h) (RDh : RD h) (h0 : n0 ≤ 100) (h1 : n1 ≤ 100) (e1 : vi h 89 5 = iZ (n1 : Int)) (C0 : Cat h 84 85 86 87 0 n0) (C1 : Cat h 90 91 92 93 100 n1) (hH : 0 ≤ H ∧ H ≤ 999) (hR : 0 ≤ R ∧ R ≤ 55) (hZ : 0 ≤ Z ∧ Z ≤ 999) {i : Nat} {t : Nat → Bool} {u : Nat → Int32} (hi : i < n0) (T : Tk t u n1) : ∀ (m j : Nat) (v6 : Value), j + m = n1 → (fj (qj t (nrj h H R Z) i) m j = none → K (some (.int (iZ 0))) (setR h 94 u)) → (∀ x, fj (qj t (nrj h H R Z) i) m j = some x → K (some (.int (iZ 1))) (setR h 94 (upd u x (iZ 1)))) → Go G (d + 2) mc ms M_X11_takeSame 3 [.ref 64, .int (iZ (i : Int)), .int (iZ H), .int (iZ R), .int (iZ Z), .int (iZ (j : Int)), v6] [] (setR h 94 u) K := by
  intro m
  induction m with
  | zero =>
    intro j v6 hj k0 k1
    refine Go_iload (pc' := 5) dX11_takeSame_3 rfl rfl ?_
    refine Go_aload_n (pc' := 6) dX11_takeSame_5 rfl rfl rfl ?_
    refine Go_getRs (pc' := 9) dX11_takeSame_6 rfl kf_RX11_70 (by decide) (by decide) rfl (S.b 64 rfl rfl) (S.o 64 rfl rfl rfl) (S.r 64 12 rfl rfl rfl) ?_
    refine Go_getIv (v := (iZ (n1 : Int))) (pc' := 12) dX11_takeSame_9 rfl kf_RX11_330 (by decide) (by decide) rfl (S.b 89 rfl rfl) (S.o 89 rfl rfl rfl) ((viS (by decide)).trans e1) ?_
    refine Go_icmp_geY (tgt := 163) (pc' := 15) dX11_takeSame_12 (by decide) rfl (by first | exact ⟨i_lo _, i_hi _⟩ | omega) (by first | exact ⟨i_lo _, i_hi _⟩ | omega) (fun c12 => ?_) (fun c12 => by exfalso; omega)
    refine Go_iconst (v := iZ 0) (pc' := 164) dX11_takeSame_163 rfl (by decide) ?_
    refine Go_ireturn (ty := .boolean) dX11_takeSame_164 rfl rfl ?_
    exact k0 rfl
  | succ m ih =>
    intro j v6 hj k0 k1
    obtain ⟨a1, a2, a3, a4, a5, a6, a7⟩ := C0 i hi
    obtain ⟨b1, b2, b3, b4, b5, b6, b7⟩ := C1 j (by omega)
    have tj := T j (by omega)
    have zz := (dz_r (X := (vi h 85 i).toInt - (vi h 91 j).toInt) (Y := (vi h 86 i).toInt - (vi h 92 j).toInt) (by omega) (by omega)).1
    by_cases ht : t j = true
    · refine Go_iload (pc' := 5) dX11_takeSame_3 rfl rfl ?_
      refine Go_aload_n (pc' := 6) dX11_takeSame_5 rfl rfl rfl ?_
      refine Go_getRs (pc' := 9) dX11_takeSame_6 rfl kf_RX11_70 (by decide) (by decide) rfl (S.b 64 rfl rfl) (S.o 64 rfl rfl rfl) (S.r 64 12 rfl rfl rfl) ?_
      refine Go_getIv (v := (iZ (n1 : Int))) (pc' := 12) dX11_takeSame_9 rfl kf_RX11_330 (by decide) (by decide) rfl (S.b 89 rfl rfl) (S.o 89 rfl rfl rfl) ((viS (by decide)).trans e1) ?_
      refine Go_icmp_geY (tgt := 163) (pc' := 15) dX11_takeSame_12 (by decide) rfl (by first | exact ⟨i_lo _, i_hi _⟩ | omega) (by first | exact ⟨i_lo _, i_hi _⟩ | omega) (fun c12 => by exfalso; omega) (fun c12 => ?_)
      refine Go_aload_n (pc' := 16) dX11_takeSame_15 rfl rfl rfl ?_
      refine Go_getRs (pc' := 19) dX11_takeSame_16 rfl kf_RX11_70 (by decide) (by decide) rfl (S.b 64 rfl rfl) (S.o 64 rfl rfl rfl) (S.r 64 12 rfl rfl rfl) ?_
      refine Go_getRs (pc' := 22) dX11_takeSame_19 rfl kf_RX11_384 (by decide) (by decide) rfl (S.b 89 rfl rfl) (S.o 89 rfl rfl rfl) (S.r 89 4 rfl rfl rfl) ?_
      refine Go_iload (pc' := 24) dX11_takeSame_22 rfl rfl ?_
      refine Go_baloadZ (n := 100) (k := j) (v := (iZ 1)) (pc' := 25) dX11_takeSame_24 rfl (S.b 94 rfl rfl) (S.k 94 rfl rfl rfl) rfl (by omega) (by decide) ((vi_setR h 94 u j).trans (tj.trans (by simp [ht]))) ?_
      refine Go_if_neY (tgt := 136) (pc' := 28) dX11_takeSame_25 (by decide) rfl (by first | exact ⟨i_lo _, i_hi _⟩ | omega) (fun c25 => ?_) (fun c25 => by exfalso; omega)
      refine Go_iconst (v := iZ 0) (pc' := 137) dX11_takeSame_136 rfl (by decide) ?_
      refine Go_istore (pc' := 139) (lv' := [.ref _, .int _, .int _, .int _, .int _, .int _, .int _]) dX11_takeSame_137 rfl (Nat.le_of_ble_eq_true rfl) rfl rfl ?_
      refine Go_iload (pc' := 141) dX11_takeSame_139 rfl rfl ?_
      refine Go_if_eqY (tgt := 157) (pc' := 144) dX11_takeSame_141 (by decide) rfl (by first | exact ⟨i_lo _, i_hi _⟩ | omega) (fun c141 => ?_) (fun c141 => by exfalso; omega)
      refine Go_iincZ (pc' := 160) (lv' := [.ref _, .int _, .int _, .int _, .int _, .int _, .int _]) dX11_takeSame_157 rfl rfl (Nat.le_of_ble_eq_true rfl) rfl rfl ?_
      refine Go_goto (tgt := 3) dX11_takeSame_160 (by decide) ?_
      have e : fj (qj t (nrj h H R Z) i) (m + 1) j = fj (qj t (nrj h H R Z) i) m (j + 1) := fj_f (qj_f (Or.inl ht))
      rw [e] at k0 k1
      exact ih (j + 1) _ (by omega) k0 k1
    · refine Go_iload (pc' := 5) dX11_takeSame_3 rfl rfl ?_
      refine Go_aload_n (pc' := 6) dX11_takeSame_5 rfl rfl rfl ?_
      refine Go_getRs (pc' := 9) dX11_takeSame_6 rfl kf_RX11_70 (by decide) (by decide) rfl (S.b 64 rfl rfl) (S.o 64 rfl rfl rfl) (S.r 64 12 rfl rfl rfl) ?_
      refine Go_getIv (v := (iZ (n1 : Int))) (pc' := 12) dX11_takeSame_9 rfl kf_RX11_330 (by decide) (by decide) rfl (S.b 89 rfl rfl) (S.o 89 rfl rfl rfl) ((viS (by decide)).trans e1) ?_
      refine Go_icmp_geY (tgt := 163) (pc' := 15) dX11_takeSame_12 (by decide) rfl (by first | exact ⟨i_lo _, i_hi _⟩ | omega) (by first | exact ⟨i_lo _, i_hi _⟩ | omega) (fun c12 => by exfalso; omega) (fun c12 => ?_)
      refine Go_aload_n (pc' := 16) dX11_takeSame_15 rfl rfl rfl ?_
      refine Go_getRs (pc' := 19) dX11_takeSame_16 rfl kf_RX11_70 (by decide) (by decide) rfl (S.b 64 rfl rfl) (S.o 64 rfl rfl rfl) (S.r 64 12 rfl rfl rfl) ?_
      refine Go_getRs (pc' := 22) dX11_takeSame_19 rfl kf_RX11_384 (by decide) (by decide) rfl (S.b 89 rfl rfl) (S.o 89 rfl rfl rfl) (S.r 89 4 rfl rfl rfl) ?_
      refine Go_iload (pc' := 24) dX11_takeSame_22 rfl rfl ?_
      refine Go_baloadZ (n := 100) (k := j) (v := (iZ 0)) (pc' := 25) dX11_takeSame_24 rfl (S.b 94 rfl rfl) (S.k 94 rfl rfl rfl) rfl (by omega) (by decide) ((vi_setR h 94 u j).trans (tj.trans (by simp [ht]))) ?_
      refine Go_if_neY (tgt := 136) (pc' := 28) dX11_takeSame_25 (by decide) rfl (by first | exact ⟨i_lo _, i_hi _⟩ | omega) (fun c25 => by exfalso; omega) (fun c25 => ?_)
      refine Go_aload_n (pc' := 29) dX11_takeSame_28 rfl rfl rfl ?_
      refine Go_getRs (pc' := 32) dX11_takeSame_29 rfl kf_RX11_66 (by decide) (by decide) rfl (S.b 64 rfl rfl) (S.o 64 rfl rfl rfl) (S.r 64 11 rfl rfl rfl) ?_
      refine Go_getRs (pc' := 35) dX11_takeSame_32 rfl kf_RX11_388 (by decide) (by decide) rfl (S.b 83 rfl rfl) (S.o 83 rfl rfl rfl) (S.r 83 0 rfl rfl rfl) ?_
      refine Go_iload_n (pc' := 36) dX11_takeSame_35 rfl rfl rfl ?_
      refine Go_ialoadZ (n := 100) (k := i) (v := (iZ (vi h 84 i).toInt)) (pc' := 37) dX11_takeSame_36 rfl (S.b 84 rfl rfl) (S.k 84 rfl rfl rfl) rfl (by omega) (by decide) ((viS (by decide)).trans (vi_eta _ _ _)) ?_
      refine Go_aload_n (pc' := 38) dX11_takeSame_37 rfl rfl rfl ?_
      refine Go_getRs (pc' := 41) dX11_takeSame_38 rfl kf_RX11_70 (by decide) (by decide) rfl (S.b 64 rfl rfl) (S.o 64 rfl rfl rfl) (S.r 64 12 rfl rfl rfl) ?_
      refine Go_getRs (pc' := 44) dX11_takeSame_41 rfl kf_RX11_388 (by decide) (by decide) rfl (S.b 89 rfl rfl) (S.o 89 rfl rfl rfl) (S.r 89 0 rfl rfl rfl) ?_
      refine Go_iload (pc' := 46) dX11_takeSame_44 rfl rfl ?_
      refine Go_ialoadZ (n := 100) (k := j) (v := (iZ (vi h 90 j).toInt)) (pc' := 47) dX11_takeSame_46 rfl (S.b 90 rfl rfl) (S.k 90 rfl rfl rfl) rfl (by omega) (by decide) ((viS (by decide)).trans (vi_eta _ _ _)) ?_
      refine Go_isubZ (pc' := 48) dX11_takeSame_47 rfl ?_
      refine Go_callS_i (pc' := 51) (As := [.int _]) (st := []) dX11_takeSame_48 rfl ok_J9_abs_0f7a4 km_RX11_392 rfl (Nat.le_of_ble_eq_true rfl) rfl rfl rfl (Nat.le_of_ble_eq_true rfl) (Nat.lt_succ_self _) ?_
      refine s_absY (by omega) ?_
      refine ⟨_, rfl, ?_⟩
      refine Go_iload_n (pc' := 52) dX11_takeSame_51 rfl rfl rfl ?_
      refine Go_icmp_gtY (tgt := 136) (pc' := 55) dX11_takeSame_52 (by decide) rfl (by first | exact ⟨i_lo _, i_hi _⟩ | omega) (by first | exact ⟨i_lo _, i_hi _⟩ | omega) (fun c52 => ?_) (fun c52 => ?_)
      · refine Go_iconst (v := iZ 0) (pc' := 137) dX11_takeSame_136 rfl (by decide) ?_
        refine Go_istore (pc' := 139) (lv' := [.ref _, .int _, .int _, .int _, .int _, .int _, .int _]) dX11_takeSame_137 rfl (Nat.le_of_ble_eq_true rfl) rfl rfl ?_
        refine Go_iload (pc' := 141) dX11_takeSame_139 rfl rfl ?_
        refine Go_if_eqY (tgt := 157) (pc' := 144) dX11_takeSame_141 (by decide) rfl (by first | exact ⟨i_lo _, i_hi _⟩ | omega) (fun c141 => ?_) (fun c141 => by exfalso; omega)
        refine Go_iincZ (pc' := 160) (lv' := [.ref _, .int _, .int _, .int _, .int _, .int _, .int _]) dX11_takeSame_157 rfl rfl (Nat.le_of_ble_eq_true rfl) rfl rfl ?_
        refine Go_goto (tgt := 3) dX11_takeSame_160 (by decide) ?_
        have e : fj (qj t (nrj h H R Z) i) (m + 1) j = fj (qj t (nrj h H R Z) i) m (j + 1) := fj_f (qj_f (Or.inr (show ¬ nrj h H R Z i j = true from fun z => by have z := of_decide_eq_true z; omega)))
        rw [e] at k0 k1
        exact ih (j + 1) _ (by omega) k0 k1
      · refine Go_aload_n (pc' := 56) dX11_takeSame_55 rfl rfl rfl ?_
        refine Go_getRs (pc' := 59) dX11_takeSame_56 rfl kf_RX11_66 (by decide) (by decide) rfl (S.b 64 rfl rfl) (S.o 64 rfl rfl rfl) (S.r 64 11 rfl rfl rfl) ?_
        refine Go_getRs (pc' := 62) dX11_takeSame_59 rfl kf_RX11_395 (by decide) (by decide) rfl (S.b 83 rfl rfl) (S.o 83 rfl rfl rfl) (S.r 83 3 rfl rfl rfl) ?_
        refine Go_iload_n (pc' := 63) dX11_takeSame_62 rfl rfl rfl ?_
        refine Go_ialoadZ (n := 100) (k := i) (v := (iZ (vi h 87 i).toInt)) (pc' := 64) dX11_takeSame_63 rfl (S.b 87 rfl rfl) (S.k 87 rfl rfl rfl) rfl (by omega) (by decide) ((viS (by decide)).trans (vi_eta _ _ _)) ?_
        refine Go_aload_n (pc' := 65) dX11_takeSame_64 rfl rfl rfl ?_
        refine Go_getRs (pc' := 68) dX11_takeSame_65 rfl kf_RX11_70 (by decide) (by decide) rfl (S.b 64 rfl rfl) (S.o 64 rfl rfl rfl) (S.r 64 12 rfl rfl rfl) ?_
        refine Go_getRs (pc' := 71) dX11_takeSame_68 rfl kf_RX11_395 (by decide) (by decide) rfl (S.b 89 rfl rfl) (S.o 89 rfl rfl rfl) (S.r 89 3 rfl rfl rfl) ?_
        refine Go_iload (pc' := 73) dX11_takeSame_71 rfl rfl ?_
        refine Go_ialoadZ (n := 100) (k := j) (v := (iZ (vi h 93 j).toInt)) (pc' := 74) dX11_takeSame_73 rfl (S.b 93 rfl rfl) (S.k 93 rfl rfl rfl) rfl (by omega) (by decide) ((viS (by decide)).trans (vi_eta _ _ _)) ?_
        refine Go_isubZ (pc' := 75) dX11_takeSame_74 rfl ?_
        refine Go_callS_i (pc' := 78) (As := [.int _]) (st := []) dX11_takeSame_75 rfl ok_J9_abs_0f7a4 km_RX11_392 rfl (Nat.le_of_ble_eq_true rfl) rfl rfl rfl (Nat.le_of_ble_eq_true rfl) (Nat.lt_succ_self _) ?_
        refine s_absY (by omega) ?_
        refine ⟨_, rfl, ?_⟩
        refine Go_iload (pc' := 80) dX11_takeSame_78 rfl rfl ?_
        refine Go_icmp_gtY (tgt := 136) (pc' := 83) dX11_takeSame_80 (by decide) rfl (by first | exact ⟨i_lo _, i_hi _⟩ | omega) (by first | exact ⟨i_lo _, i_hi _⟩ | omega) (fun c80 => ?_) (fun c80 => ?_)
        · refine Go_iconst (v := iZ 0) (pc' := 137) dX11_takeSame_136 rfl (by decide) ?_
          refine Go_istore (pc' := 139) (lv' := [.ref _, .int _, .int _, .int _, .int _, .int _, .int _]) dX11_takeSame_137 rfl (Nat.le_of_ble_eq_true rfl) rfl rfl ?_
          refine Go_iload (pc' := 141) dX11_takeSame_139 rfl rfl ?_
          refine Go_if_eqY (tgt := 157) (pc' := 144) dX11_takeSame_141 (by decide) rfl (by first | exact ⟨i_lo _, i_hi _⟩ | omega) (fun c141 => ?_) (fun c141 => by exfalso; omega)
          refine Go_iincZ (pc' := 160) (lv' := [.ref _, .int _, .int _, .int _, .int _, .int _, .int _]) dX11_takeSame_157 rfl rfl (Nat.le_of_ble_eq_true rfl) rfl rfl ?_
          refine Go_goto (tgt := 3) dX11_takeSame_160 (by decide) ?_
          have e : fj (qj t (nrj h H R Z) i) (m + 1) j = fj (qj t (nrj h H R Z) i) m (j + 1) := fj_f (qj_f (Or.inr (show ¬ nrj h H R Z i j = true from fun z => by have z := of_decide_eq_true z; omega)))
          rw [e] at k0 k1
          exact ih (j + 1) _ (by omega) k0 k1
        · refine Go_aload_n (pc' := 84) dX11_takeSame_83 rfl rfl rfl ?_
          refine Go_getRs (pc' := 87) dX11_takeSame_84 rfl kf_RX11_10 (by decide) (by decide) rfl (S.b 64 rfl rfl) (S.o 64 rfl rfl rfl) (S.r 64 0 rfl rfl rfl) ?_
          refine Go_aload_n (pc' := 88) dX11_takeSame_87 rfl rfl rfl ?_
          refine Go_getRs (pc' := 91) dX11_takeSame_88 rfl kf_RX11_66 (by decide) (by decide) rfl (S.b 64 rfl rfl) (S.o 64 rfl rfl rfl) (S.r 64 11 rfl rfl rfl) ?_
          refine Go_getRs (pc' := 94) dX11_takeSame_91 rfl kf_RX11_398 (by decide) (by decide) rfl (S.b 83 rfl rfl) (S.o 83 rfl rfl rfl) (S.r 83 1 rfl rfl rfl) ?_
          refine Go_iload_n (pc' := 95) dX11_takeSame_94 rfl rfl rfl ?_
          refine Go_ialoadZ (n := 100) (k := i) (v := (iZ (vi h 85 i).toInt)) (pc' := 96) dX11_takeSame_95 rfl (S.b 85 rfl rfl) (S.k 85 rfl rfl rfl) rfl (by omega) (by decide) ((viS (by decide)).trans (vi_eta _ _ _)) ?_
          refine Go_aload_n (pc' := 97) dX11_takeSame_96 rfl rfl rfl ?_
          refine Go_getRs (pc' := 100) dX11_takeSame_97 rfl kf_RX11_66 (by decide) (by decide) rfl (S.b 64 rfl rfl) (S.o 64 rfl rfl rfl) (S.r 64 11 rfl rfl rfl) ?_
          refine Go_getRs (pc' := 103) dX11_takeSame_100 rfl kf_RX11_401 (by decide) (by decide) rfl (S.b 83 rfl rfl) (S.o 83 rfl rfl rfl) (S.r 83 2 rfl rfl rfl) ?_
          refine Go_iload_n (pc' := 104) dX11_takeSame_103 rfl rfl rfl ?_
          refine Go_ialoadZ (n := 100) (k := i) (v := (iZ (vi h 86 i).toInt)) (pc' := 105) dX11_takeSame_104 rfl (S.b 86 rfl rfl) (S.k 86 rfl rfl rfl) rfl (by omega) (by decide) ((viS (by decide)).trans (vi_eta _ _ _)) ?_
          refine Go_aload_n (pc' := 106) dX11_takeSame_105 rfl rfl rfl ?_
          refine Go_getRs (pc' := 109) dX11_takeSame_106 rfl kf_RX11_70 (by decide) (by decide) rfl (S.b 64 rfl rfl) (S.o 64 rfl rfl rfl) (S.r 64 12 rfl rfl rfl) ?_
          refine Go_getRs (pc' := 112) dX11_takeSame_109 rfl kf_RX11_398 (by decide) (by decide) rfl (S.b 89 rfl rfl) (S.o 89 rfl rfl rfl) (S.r 89 1 rfl rfl rfl) ?_
          refine Go_iload (pc' := 114) dX11_takeSame_112 rfl rfl ?_
          refine Go_ialoadZ (n := 100) (k := j) (v := (iZ (vi h 91 j).toInt)) (pc' := 115) dX11_takeSame_114 rfl (S.b 91 rfl rfl) (S.k 91 rfl rfl rfl) rfl (by omega) (by decide) ((viS (by decide)).trans (vi_eta _ _ _)) ?_
          refine Go_aload_n (pc' := 116) dX11_takeSame_115 rfl rfl rfl ?_
          refine Go_getRs (pc' := 119) dX11_takeSame_116 rfl kf_RX11_70 (by decide) (by decide) rfl (S.b 64 rfl rfl) (S.o 64 rfl rfl rfl) (S.r 64 12 rfl rfl rfl) ?_
          refine Go_getRs (pc' := 122) dX11_takeSame_119 rfl kf_RX11_401 (by decide) (by decide) rfl (S.b 89 rfl rfl) (S.o 89 rfl rfl rfl) (S.r 89 2 rfl rfl rfl) ?_
          refine Go_iload (pc' := 124) dX11_takeSame_122 rfl rfl ?_
          refine Go_ialoadZ (n := 100) (k := j) (v := (iZ (vi h 92 j).toInt)) (pc' := 125) dX11_takeSame_124 rfl (S.b 92 rfl rfl) (S.k 92 rfl rfl rfl) rfl (by omega) (by decide) ((viS (by decide)).trans (vi_eta _ _ _)) ?_
          refine Go_callV_i (pc' := 128) (As := [.int _, .int _, .int _, .int _]) (st := []) dX11_takeSame_125 rfl ok_X3_distance km_RX11_357 (S.o 65 rfl rfl rfl) (S.b 65 rfl rfl) ⟨_, _, rfl⟩ rfl (Nat.le_of_ble_eq_true rfl) rfl rfl rfl (Nat.le_of_ble_eq_true rfl) (Nat.lt_succ_self _) ?_
          refine s_dist S (RDh.fr (SameOn.setR fun _ => rfl)) (by omega) (by omega) (by omega) (by omega) ?_
          refine ⟨_, rfl, ?_⟩
          refine Go_iload_n (pc' := 129) dX11_takeSame_128 rfl rfl rfl ?_
          refine Go_icmp_gtY (tgt := 136) (pc' := 132) dX11_takeSame_129 (by decide) rfl (by first | exact ⟨i_lo _, i_hi _⟩ | omega) (by first | exact ⟨i_lo _, i_hi _⟩ | omega) (fun c129 => ?_) (fun c129 => ?_)
          · refine Go_iconst (v := iZ 0) (pc' := 137) dX11_takeSame_136 rfl (by decide) ?_
            refine Go_istore (pc' := 139) (lv' := [.ref _, .int _, .int _, .int _, .int _, .int _, .int _]) dX11_takeSame_137 rfl (Nat.le_of_ble_eq_true rfl) rfl rfl ?_
            refine Go_iload (pc' := 141) dX11_takeSame_139 rfl rfl ?_
            refine Go_if_eqY (tgt := 157) (pc' := 144) dX11_takeSame_141 (by decide) rfl (by first | exact ⟨i_lo _, i_hi _⟩ | omega) (fun c141 => ?_) (fun c141 => by exfalso; omega)
            refine Go_iincZ (pc' := 160) (lv' := [.ref _, .int _, .int _, .int _, .int _, .int _, .int _]) dX11_takeSame_157 rfl rfl (Nat.le_of_ble_eq_true rfl) rfl rfl ?_
            refine Go_goto (tgt := 3) dX11_takeSame_160 (by decide) ?_
            have e : fj (qj t (nrj h H R Z) i) (m + 1) j = fj (qj t (nrj h H R Z) i) m (j + 1) := fj_f (qj_f (Or.inr (show ¬ nrj h H R Z i j = true from fun z => by have z := of_decide_eq_true z; omega)))
            rw [e] at k0 k1
            exact ih (j + 1) _ (by omega) k0 k1
          · refine Go_iconst (v := iZ 1) (pc' := 133) dX11_takeSame_132 rfl (by decide) ?_
            refine Go_goto (tgt := 137) dX11_takeSame_133 (by decide) ?_
            refine Go_istore (pc' := 139) (lv' := [.ref _, .int _, .int _, .int _, .int _, .int _, .int _]) dX11_takeSame_137 rfl (Nat.le_of_ble_eq_true rfl) rfl rfl ?_
            refine Go_iload (pc' := 141) dX11_takeSame_139 rfl rfl ?_
            refine Go_if_eqY (tgt := 157) (pc' := 144) dX11_takeSame_141 (by decide) rfl (by first | exact ⟨i_lo _, i_hi _⟩ | omega) (fun c141 => by exfalso; omega) (fun c141 => ?_)
            refine Go_aload_n (pc' := 145) dX11_takeSame_144 rfl rfl rfl ?_
            refine Go_getRs (pc' := 148) dX11_takeSame_145 rfl kf_RX11_70 (by decide) (by decide) rfl (S.b 64 rfl rfl) (S.o 64 rfl rfl rfl) (S.r 64 12 rfl rfl rfl) ?_
            refine Go_getRs (pc' := 151) dX11_takeSame_148 rfl kf_RX11_384 (by decide) (by decide) rfl (S.b 89 rfl rfl) (S.o 89 rfl rfl rfl) (S.r 89 4 rfl rfl rfl) ?_
            refine Go_iload (pc' := 153) dX11_takeSame_151 rfl rfl ?_
            refine Go_iconst (v := iZ 1) (pc' := 154) dX11_takeSame_153 rfl (by decide) ?_
            refine Go_bastoreZ (n := 100) (k := j) (pc' := 155) dX11_takeSame_154 rfl (S.b 94 rfl rfl) (S.k 94 rfl rfl rfl) rfl (by omega) (by decide) (by decide) ?_
            refine Go_iconst (v := iZ 1) (pc' := 156) dX11_takeSame_155 rfl (by decide) ?_
            refine Go_ireturn (ty := .boolean) dX11_takeSame_156 rfl rfl ?_
            rw [setR_wI]
            exact k1 j (fj_t (qj_t ht (show nrj h H R Z i j = true from decide_eq_true ⟨by omega, by omega, by omega⟩)))
set_option maxRecDepth 20000 in
set_option maxHeartbeats 1000000 in
theorem s_takeSame {G : GC} {d mc ms : Nat} {h : HS} {K : Option Value → HS → Prop} {n0 n1 : Nat} {H R Z : Int} (S : Shp h) (RDh : RD h) (h0 : n0 ≤ 100) (h1 : n1 ≤ 100) (e1 : vi h 89 5 = iZ (n1 : Int)) (C0 : Cat h 84 85 86 87 0 n0) (C1 : Cat h 90 91 92 93 100 n1) (hH : 0 ≤ H ∧ H ≤ 999) (hR : 0 ≤ R ∧ R ≤ 55) (hZ : 0 ≤ Z ∧ Z ≤ 999) {i : Nat} {t : Nat → Bool} {u : Nat → Int32} (hi : i < n0) (T : Tk t u n1) (k0 : fj (qj t (nrj h H R Z) i) n1 0 = none → K (some (.int (iZ 0))) (setR h 94 u)) (k1 : ∀ x, fj (qj t (nrj h H R Z) i) n1 0 = some x → K (some (.int (iZ 1))) (setR h 94 (upd u x (iZ 1)))) : Go G (d + 2) mc ms M_X11_takeSame 0 [.ref 64, .int (iZ (i : Int)), .int (iZ H), .int (iZ R), .int (iZ Z), un, un] [] (setR h 94 u) K := by
  refine Go_iconst (v := iZ 0) (pc' := 1) dX11_takeSame_0 rfl (by decide) ?_
  refine Go_istore (pc' := 3) (lv' := [.ref _, .int _, .int _, .int _, .int _, .int _, un]) dX11_takeSame_1 rfl (Nat.le_of_ble_eq_true rfl) rfl rfl ?_
  exact ts_loop S RDh h0 h1 e1 C0 C1 hH hR hZ hi T n1 0 _ (Nat.zero_add n1) k0 k1
set_option maxRecDepth 20000 in
set_option maxHeartbeats 1000000 in
theorem jn_loop {G : GC} {d mc ms : Nat} {h : HS} {K : Option Value → HS → Prop} {n0 n1 : Nat} {H R Z : Int} (S : Shp h) (RDh : RD h) (h0 : n0 ≤ 100) (h1 : n1 ≤ 100) (e1 : vi h 89 5 = iZ (n1 : Int)) (C0 : Cat h 84 85 86 87 0 n0) (C1 : Cat h 90 91 92 93 100 n1) (hH : 0 ≤ H ∧ H ≤ 999) (hR : 0 ≤ R ∧ R ≤ 55) (hZ : 0 ≤ Z ∧ Z ≤ 999) (e0 : vi h 83 5 = iZ (n0 : Int)) : ∀ (m i : Nat) (t : Nat → Bool) (u : Nat → Int32) (a : Int), i + m = n0 → Tk t u n1 → (∀ u, K (some (.int (iZ (jn (nrj h H R Z) n1 m i t a)))) (setR h 94 u)) → Go G (d + 3) mc ms M_X11_joined 61 [.ref 64, .int (iZ H), .int (iZ R), .int (iZ Z), .int (iZ a), .int (iZ (i : Int))] [] (setR h 94 u) K := by
  intro m
  induction m with
  | zero =>
    intro i t u a hi T hk
    refine Go_iload (pc' := 63) dX11_joined_61 rfl rfl ?_
    refine Go_aload_n (pc' := 64) dX11_joined_63 rfl rfl rfl ?_
    refine Go_getRs (pc' := 67) dX11_joined_64 rfl kf_RX11_66 (by decide) (by decide) rfl (S.b 64 rfl rfl) (S.o 64 rfl rfl rfl) (S.r 64 11 rfl rfl rfl) ?_
    refine Go_getIv (v := (iZ (n0 : Int))) (pc' := 70) dX11_joined_67 rfl kf_RX11_330 (by decide) (by decide) rfl (S.b 83 rfl rfl) (S.o 83 rfl rfl rfl) ((viS (by decide)).trans e0) ?_
    refine Go_icmp_geY (tgt := 94) (pc' := 73) dX11_joined_70 (by decide) rfl (by first | exact ⟨i_lo _, i_hi _⟩ | omega) (by first | exact ⟨i_lo _, i_hi _⟩ | omega) (fun c70 => ?_) (fun c70 => by exfalso; omega)
    refine Go_iload (pc' := 96) dX11_joined_94 rfl rfl ?_
    refine Go_ireturn (ty := .int) dX11_joined_96 rfl rfl ?_
    exact hk u
  | succ m ih =>
    intro i t u a hi T hk
    refine Go_iload (pc' := 63) dX11_joined_61 rfl rfl ?_
    refine Go_aload_n (pc' := 64) dX11_joined_63 rfl rfl rfl ?_
    refine Go_getRs (pc' := 67) dX11_joined_64 rfl kf_RX11_66 (by decide) (by decide) rfl (S.b 64 rfl rfl) (S.o 64 rfl rfl rfl) (S.r 64 11 rfl rfl rfl) ?_
    refine Go_getIv (v := (iZ (n0 : Int))) (pc' := 70) dX11_joined_67 rfl kf_RX11_330 (by decide) (by decide) rfl (S.b 83 rfl rfl) (S.o 83 rfl rfl rfl) ((viS (by decide)).trans e0) ?_
    refine Go_icmp_geY (tgt := 94) (pc' := 73) dX11_joined_70 (by decide) rfl (by first | exact ⟨i_lo _, i_hi _⟩ | omega) (by first | exact ⟨i_lo _, i_hi _⟩ | omega) (fun c70 => by exfalso; omega) (fun c70 => ?_)
    refine Go_aload_n (pc' := 74) dX11_joined_73 rfl rfl rfl ?_
    refine Go_iload (pc' := 76) dX11_joined_74 rfl rfl ?_
    refine Go_iload_n (pc' := 77) dX11_joined_76 rfl rfl rfl ?_
    refine Go_iload_n (pc' := 78) dX11_joined_77 rfl rfl rfl ?_
    refine Go_iload_n (pc' := 79) dX11_joined_78 rfl rfl rfl ?_
    refine Go_callV_i (pc' := 82) (As := [.int _, .int _, .int _, .int _]) (st := []) dX11_joined_79 rfl ok_X11_takeSame km_RX11_333 (S.o 64 rfl rfl rfl) (S.b 64 rfl rfl) ⟨_, _, rfl⟩ rfl (Nat.le_of_ble_eq_true rfl) rfl rfl rfl (Nat.le_of_ble_eq_true rfl) (Nat.lt_succ_self _) ?_
    refine s_takeSame S RDh h0 h1 e1 C0 C1 hH hR hZ (by omega) T (fun fe => ?_) (fun x fe => ?_)
    · refine ⟨_, rfl, ?_⟩
      refine Go_if_eqY (tgt := 88) (pc' := 85) dX11_joined_82 (by decide) rfl (by first | exact ⟨i_lo _, i_hi _⟩ | omega) (fun c82 => ?_) (fun c82 => by exfalso; omega)
      refine Go_iincZ (pc' := 91) (lv' := [.ref _, .int _, .int _, .int _, .int _, .int _]) dX11_joined_88 rfl rfl (Nat.le_of_ble_eq_true rfl) rfl rfl ?_
      refine Go_goto (tgt := 61) dX11_joined_91 (by decide) ?_
      rw [jn_n fe] at hk
      exact ih (i + 1) _ _ _ (by omega) T hk
    · refine ⟨_, rfl, ?_⟩
      refine Go_if_eqY (tgt := 88) (pc' := 85) dX11_joined_82 (by decide) rfl (by omega) (fun c82 => by exfalso; omega) (fun c82 => ?_)
      refine Go_iincZ (pc' := 88) (lv' := [.ref _, .int _, .int _, .int _, .int _, .int _]) dX11_joined_85 rfl rfl (Nat.le_of_ble_eq_true rfl) rfl rfl ?_
      refine Go_iincZ (pc' := 91) (lv' := [.ref _, .int _, .int _, .int _, .int _, .int _]) dX11_joined_88 rfl rfl (Nat.le_of_ble_eq_true rfl) rfl rfl ?_
      refine Go_goto (tgt := 61) dX11_joined_91 (by decide) ?_
      rw [jn_s fe] at hk
      exact ih (i + 1) _ _ _ (by omega) T.put hk
set_option maxRecDepth 20000 in
set_option maxHeartbeats 1000000 in
theorem clr_loop {G : GC} {d mc ms : Nat} {h : HS} {K : Option Value → HS → Prop} {H R Z : Int} (S : Shp h) (hk : ∀ (u : Nat → Int32) (x : Int), Tk (fun _ => false) u 100 → Go G d mc ms M_X12_joined 58 [.ref 99, .int (iZ H), .int (iZ R), .int (iZ Z), .int (iZ x), un, un, un, un, un] [] (setR h 141 u) K) : ∀ (m i : Nat) (u : Nat → Int32), i + m = 100 → Tk (fun _ => false) u i → Go G d mc ms M_X12_joined 37 [.ref 99, .int (iZ H), .int (iZ R), .int (iZ Z), .int (iZ (i : Int)), un, un, un, un, un] [] (setR h 141 u) K := by
  intro m
  induction m with
  | zero =>
    intro i u hi hu
    refine Go_iload (pc' := 39) dX12_joined_37 rfl rfl ?_
    refine Go_bipush (v := iZ 100) (pc' := 41) dX12_joined_39 rfl (by decide) ?_
    refine Go_icmp_geY (tgt := 58) (pc' := 44) dX12_joined_41 (by decide) rfl (by first | exact ⟨i_lo _, i_hi _⟩ | omega) (by first | exact ⟨i_lo _, i_hi _⟩ | omega) (fun c41 => ?_) (fun c41 => by exfalso; omega)
    exact hk u _ (by rw [show 100 = i by omega]; exact hu)
  | succ m ih =>
    intro i u hi hu
    refine Go_iload (pc' := 39) dX12_joined_37 rfl rfl ?_
    refine Go_bipush (v := iZ 100) (pc' := 41) dX12_joined_39 rfl (by decide) ?_
    refine Go_icmp_geY (tgt := 58) (pc' := 44) dX12_joined_41 (by decide) rfl (by first | exact ⟨i_lo _, i_hi _⟩ | omega) (by first | exact ⟨i_lo _, i_hi _⟩ | omega) (fun c41 => by exfalso; omega) (fun c41 => ?_)
    refine Go_aload_n (pc' := 45) dX12_joined_44 rfl rfl rfl ?_
    refine Go_getRs (pc' := 48) dX12_joined_45 rfl kf_RX12_144 (by decide) (by decide) rfl (S.b 99 rfl rfl) (S.o 99 rfl rfl rfl) (S.r 99 60 rfl rfl rfl) ?_
    refine Go_iload (pc' := 50) dX12_joined_48 rfl rfl ?_
    refine Go_iconst (v := iZ 0) (pc' := 51) dX12_joined_50 rfl (by decide) ?_
    refine Go_bastoreZ (n := 100) (k := i) (pc' := 52) dX12_joined_51 rfl (S.b 141 rfl rfl) (S.k 141 rfl rfl rfl) rfl (by omega) (by decide) (by decide) ?_
    refine Go_iincZ (pc' := 55) (lv' := [.ref _, .int _, .int _, .int _, .int _, un, un, un, un, un]) dX12_joined_52 rfl rfl (Nat.le_of_ble_eq_true rfl) rfl rfl ?_
    refine Go_goto (tgt := 37) dX12_joined_55 (by decide) ?_
    rw [setR_wI]
    refine ih (i + 1) _ (by omega) (fun k hk => ?_)
    unfold upd
    by_cases c : k = i
    · simp [c]
    · simp [c]; exact hu k (by omega)
set_option maxRecDepth 20000 in
set_option maxHeartbeats 1000000 in
theorem in_loop {G : GC} {d mc ms : Nat} {h : HS} {K : Option Value → HS → Prop} {n0 n1 : Nat} {H R Z : Int} (S : Shp h) (h0 : n0 ≤ 100) (h1 : n1 ≤ 100) (e1m : vi h 134 1 = iZ (n1 : Int)) (C0 : Cat h 84 85 86 87 0 n0) (C1 : Cat h 90 91 92 93 100 n1) (hH : 0 ≤ H ∧ H ≤ 999) (hR : 0 ≤ R ∧ R ≤ 55) (hZ : 0 ≤ Z ∧ Z ≤ 999) {i : Nat} {a : Int} {t : Nat → Bool} {u : Nat → Int32} (hi : i < n0) (T : Tk t u n1) : ∀ (m j : Nat) (v8 v9 : Value), j + m = n1 → (fj (qj t (nrj h H R Z) i) m j = none → ∀ (y : Int) (v8 v9 : Value), Go G (d + 1) mc ms M_X12_joined 212 [.ref 99, .int (iZ H), .int (iZ R), .int (iZ Z), .int (iZ a), .int (iZ (i : Int)), .int (iZ (-1)), .int (iZ y), v8, v9] [] (setR h 141 u) K) → (∀ x, fj (qj t (nrj h H R Z) i) m j = some x → ∀ (y : Int) (v8 v9 : Value), Go G (d + 1) mc ms M_X12_joined 212 [.ref 99, .int (iZ H), .int (iZ R), .int (iZ Z), .int (iZ a), .int (iZ (i : Int)), .int (iZ (x : Int)), .int (iZ y), v8, v9] [] (setR h 141 u) K) → Go G (d + 1) mc ms M_X12_joined 93 [.ref 99, .int (iZ H), .int (iZ R), .int (iZ Z), .int (iZ a), .int (iZ (i : Int)), .int (iZ (-1)), .int (iZ (j : Int)), v8, v9] [] (setR h 141 u) K := by
  intro m
  induction m with
  | zero =>
    intro j v8 v9 hj k0 k1
    refine Go_iload (pc' := 95) dX12_joined_93 rfl rfl ?_
    refine Go_aload_n (pc' := 96) dX12_joined_95 rfl rfl rfl ?_
    refine Go_getRs (pc' := 99) dX12_joined_96 rfl kf_RX12_123 (by decide) (by decide) rfl (S.b 99 rfl rfl) (S.o 99 rfl rfl rfl) (S.r 99 52 rfl rfl rfl) ?_
    refine Go_iconst (v := iZ 1) (pc' := 100) dX12_joined_99 rfl (by decide) ?_
    refine Go_ialoadZ (n := 2) (k := 1) (v := (iZ (n1 : Int))) (pc' := 101) dX12_joined_100 rfl (S.b 134 rfl rfl) (S.k 134 rfl rfl rfl) rfl (by decide) (by decide) ((viS (by decide)).trans e1m) ?_
    refine Go_icmp_geY (tgt := 212) (pc' := 104) dX12_joined_101 (by decide) rfl (by first | exact ⟨i_lo _, i_hi _⟩ | omega) (by first | exact ⟨i_lo _, i_hi _⟩ | omega) (fun c101 => ?_) (fun c101 => by exfalso; omega)
    exact k0 rfl _ _ _
  | succ m ih =>
    intro j v8 v9 hj k0 k1
    obtain ⟨a1, a2, a3, a4, a5, a6, a7⟩ := C0 i hi
    obtain ⟨b1, b2, b3, b4, b5, b6, b7⟩ := C1 j (by omega)
    have tj := T j (by omega)
    have zz := (dz_r (X := (vi h 85 i).toInt - (vi h 91 j).toInt) (Y := (vi h 86 i).toInt - (vi h 92 j).toInt) (by omega) (by omega)).1
    rw [Nat.zero_add] at a5 a6 a7
    by_cases ht : t j = true
    · refine Go_iload (pc' := 95) dX12_joined_93 rfl rfl ?_
      refine Go_aload_n (pc' := 96) dX12_joined_95 rfl rfl rfl ?_
      refine Go_getRs (pc' := 99) dX12_joined_96 rfl kf_RX12_123 (by decide) (by decide) rfl (S.b 99 rfl rfl) (S.o 99 rfl rfl rfl) (S.r 99 52 rfl rfl rfl) ?_
      refine Go_iconst (v := iZ 1) (pc' := 100) dX12_joined_99 rfl (by decide) ?_
      refine Go_ialoadZ (n := 2) (k := 1) (v := (iZ (n1 : Int))) (pc' := 101) dX12_joined_100 rfl (S.b 134 rfl rfl) (S.k 134 rfl rfl rfl) rfl (by decide) (by decide) ((viS (by decide)).trans e1m) ?_
      refine Go_icmp_geY (tgt := 212) (pc' := 104) dX12_joined_101 (by decide) rfl (by first | exact ⟨i_lo _, i_hi _⟩ | omega) (by first | exact ⟨i_lo _, i_hi _⟩ | omega) (fun c101 => by exfalso; omega) (fun c101 => ?_)
      refine Go_iload (pc' := 106) dX12_joined_104 rfl rfl ?_
      refine Go_iconst (v := iZ (-1)) (pc' := 107) dX12_joined_106 rfl (by decide) ?_
      refine Go_icmp_neY (tgt := 212) (pc' := 110) dX12_joined_107 (by decide) rfl (by first | exact ⟨i_lo _, i_hi _⟩ | omega) (by first | exact ⟨i_lo _, i_hi _⟩ | omega) (fun c107 => by exfalso; omega) (fun c107 => ?_)
      refine Go_bipush (v := iZ 100) (pc' := 112) dX12_joined_110 rfl (by decide) ?_
      refine Go_iload (pc' := 114) dX12_joined_112 rfl rfl ?_
      refine Go_iaddZ (pc' := 115) dX12_joined_114 rfl ?_
      refine Go_istore (pc' := 117) (lv' := [.ref _, .int _, .int _, .int _, .int _, .int _, .int _, .int _, .int _, _]) dX12_joined_115 rfl (Nat.le_of_ble_eq_true rfl) rfl rfl ?_
      refine Go_aload_n (pc' := 118) dX12_joined_117 rfl rfl rfl ?_
      refine Go_getRs (pc' := 121) dX12_joined_118 rfl kf_RX12_126 (by decide) (by decide) rfl (S.b 99 rfl rfl) (S.o 99 rfl rfl rfl) (S.r 99 53 rfl rfl rfl) ?_
      refine Go_iload (pc' := 123) dX12_joined_121 rfl rfl ?_
      refine Go_ialoadZ (n := 200) (k := i) (v := (iZ (vi h 84 i).toInt)) (pc' := 124) dX12_joined_123 rfl (S.b 135 rfl rfl) (S.k 135 rfl rfl rfl) rfl (by omega) (by decide) ((viS (by decide)).trans a5) ?_
      refine Go_aload_n (pc' := 125) dX12_joined_124 rfl rfl rfl ?_
      refine Go_getRs (pc' := 128) dX12_joined_125 rfl kf_RX12_126 (by decide) (by decide) rfl (S.b 99 rfl rfl) (S.o 99 rfl rfl rfl) (S.r 99 53 rfl rfl rfl) ?_
      refine Go_iload (pc' := 130) dX12_joined_128 rfl rfl ?_
      refine Go_ialoadZ (n := 200) (k := (100 + j)) (v := (iZ (vi h 90 j).toInt)) (pc' := 131) dX12_joined_130 rfl (S.b 135 rfl rfl) (S.k 135 rfl rfl rfl) (by omega) (by omega) (by decide) ((viS (by decide)).trans b5) ?_
      refine Go_callS_i (pc' := 134) (As := [.int _, .int _]) (st := []) dX12_joined_131 rfl ok_X12_apart km_RX12_388 rfl (Nat.le_of_ble_eq_true rfl) rfl rfl rfl (Nat.le_of_ble_eq_true rfl) (Nat.lt_succ_self _) ?_
      refine s_apart (by omega) (by omega) ?_
      refine ⟨_, rfl, ?_⟩
      refine Go_iload_n (pc' := 135) dX12_joined_134 rfl rfl rfl ?_
      refine Go_icmp_gtY (tgt := 184) (pc' := 138) dX12_joined_135 (by decide) rfl (by first | exact ⟨i_lo _, i_hi _⟩ | omega) (by first | exact ⟨i_lo _, i_hi _⟩ | omega) (fun c135 => ?_) (fun c135 => ?_)
      · refine Go_iconst (v := iZ 0) (pc' := 185) dX12_joined_184 rfl (by decide) ?_
        refine Go_istore (pc' := 187) (lv' := [.ref _, .int _, .int _, .int _, .int _, .int _, .int _, .int _, .int _, .int _]) dX12_joined_185 rfl (Nat.le_of_ble_eq_true rfl) rfl rfl ?_
        refine Go_iload (pc' := 189) dX12_joined_187 rfl rfl ?_
        refine Go_if_eqY (tgt := 206) (pc' := 192) dX12_joined_189 (by decide) rfl (by first | exact ⟨i_lo _, i_hi _⟩ | omega) (fun c189 => ?_) (fun c189 => by exfalso; omega)
        refine Go_iincZ (pc' := 209) (lv' := [.ref _, .int _, .int _, .int _, .int _, .int _, .int _, .int _, .int _, .int _]) dX12_joined_206 rfl rfl (Nat.le_of_ble_eq_true rfl) rfl rfl ?_
        refine Go_goto (tgt := 93) dX12_joined_209 (by decide) ?_
        have e : fj (qj t (nrj h H R Z) i) (m + 1) j = fj (qj t (nrj h H R Z) i) m (j + 1) := fj_f (qj_f (Or.inl ht))
        rw [e] at k0 k1
        exact ih (j + 1) _ _ (by omega) k0 k1
      · refine Go_aload_n (pc' := 139) dX12_joined_138 rfl rfl rfl ?_
        refine Go_getRs (pc' := 142) dX12_joined_139 rfl kf_RX12_129 (by decide) (by decide) rfl (S.b 99 rfl rfl) (S.o 99 rfl rfl rfl) (S.r 99 54 rfl rfl rfl) ?_
        refine Go_iload (pc' := 144) dX12_joined_142 rfl rfl ?_
        refine Go_ialoadZ (n := 200) (k := i) (v := (iZ (40 * (vi h 86 i).toInt + (vi h 85 i).toInt))) (pc' := 145) dX12_joined_144 rfl (S.b 136 rfl rfl) (S.k 136 rfl rfl rfl) rfl (by omega) (by decide) ((viS (by decide)).trans a6) ?_
        refine Go_aload_n (pc' := 146) dX12_joined_145 rfl rfl rfl ?_
        refine Go_getRs (pc' := 149) dX12_joined_146 rfl kf_RX12_129 (by decide) (by decide) rfl (S.b 99 rfl rfl) (S.o 99 rfl rfl rfl) (S.r 99 54 rfl rfl rfl) ?_
        refine Go_iload (pc' := 151) dX12_joined_149 rfl rfl ?_
        refine Go_ialoadZ (n := 200) (k := (100 + j)) (v := (iZ (40 * (vi h 92 j).toInt + (vi h 91 j).toInt))) (pc' := 152) dX12_joined_151 rfl (S.b 136 rfl rfl) (S.k 136 rfl rfl rfl) (by omega) (by omega) (by decide) ((viS (by decide)).trans b6) ?_
        refine Go_callS_i (pc' := 155) (As := [.int _, .int _]) (st := []) dX12_joined_152 rfl ok_X12_distance km_RX12_350 rfl (Nat.le_of_ble_eq_true rfl) rfl rfl rfl (Nat.le_of_ble_eq_true rfl) (Nat.lt_succ_self _) ?_
        refine s_distX (x := (vi h 85 i).toInt) (y := (vi h 86 i).toInt) (u := (vi h 91 j).toInt) (v := (vi h 92 j).toInt) (by omega) (by omega) (by omega) (by omega) (by omega) (by omega) ?_
        refine ⟨_, rfl, ?_⟩
        refine Go_iload_n (pc' := 156) dX12_joined_155 rfl rfl rfl ?_
        refine Go_icmp_gtY (tgt := 184) (pc' := 159) dX12_joined_156 (by decide) rfl (by first | exact ⟨i_lo _, i_hi _⟩ | omega) (by first | exact ⟨i_lo _, i_hi _⟩ | omega) (fun c156 => ?_) (fun c156 => ?_)
        · refine Go_iconst (v := iZ 0) (pc' := 185) dX12_joined_184 rfl (by decide) ?_
          refine Go_istore (pc' := 187) (lv' := [.ref _, .int _, .int _, .int _, .int _, .int _, .int _, .int _, .int _, .int _]) dX12_joined_185 rfl (Nat.le_of_ble_eq_true rfl) rfl rfl ?_
          refine Go_iload (pc' := 189) dX12_joined_187 rfl rfl ?_
          refine Go_if_eqY (tgt := 206) (pc' := 192) dX12_joined_189 (by decide) rfl (by first | exact ⟨i_lo _, i_hi _⟩ | omega) (fun c189 => ?_) (fun c189 => by exfalso; omega)
          refine Go_iincZ (pc' := 209) (lv' := [.ref _, .int _, .int _, .int _, .int _, .int _, .int _, .int _, .int _, .int _]) dX12_joined_206 rfl rfl (Nat.le_of_ble_eq_true rfl) rfl rfl ?_
          refine Go_goto (tgt := 93) dX12_joined_209 (by decide) ?_
          have e : fj (qj t (nrj h H R Z) i) (m + 1) j = fj (qj t (nrj h H R Z) i) m (j + 1) := fj_f (qj_f (Or.inl ht))
          rw [e] at k0 k1
          exact ih (j + 1) _ _ (by omega) k0 k1
        · refine Go_aload_n (pc' := 160) dX12_joined_159 rfl rfl rfl ?_
          refine Go_getRs (pc' := 163) dX12_joined_160 rfl kf_RX12_132 (by decide) (by decide) rfl (S.b 99 rfl rfl) (S.o 99 rfl rfl rfl) (S.r 99 55 rfl rfl rfl) ?_
          refine Go_iload (pc' := 165) dX12_joined_163 rfl rfl ?_
          refine Go_ialoadZ (n := 200) (k := i) (v := (iZ (vi h 87 i).toInt)) (pc' := 166) dX12_joined_165 rfl (S.b 137 rfl rfl) (S.k 137 rfl rfl rfl) rfl (by omega) (by decide) ((viS (by decide)).trans a7) ?_
          refine Go_aload_n (pc' := 167) dX12_joined_166 rfl rfl rfl ?_
          refine Go_getRs (pc' := 170) dX12_joined_167 rfl kf_RX12_132 (by decide) (by decide) rfl (S.b 99 rfl rfl) (S.o 99 rfl rfl rfl) (S.r 99 55 rfl rfl rfl) ?_
          refine Go_iload (pc' := 172) dX12_joined_170 rfl rfl ?_
          refine Go_ialoadZ (n := 200) (k := (100 + j)) (v := (iZ (vi h 93 j).toInt)) (pc' := 173) dX12_joined_172 rfl (S.b 137 rfl rfl) (S.k 137 rfl rfl rfl) (by omega) (by omega) (by decide) ((viS (by decide)).trans b7) ?_
          refine Go_callS_i (pc' := 176) (As := [.int _, .int _]) (st := []) dX12_joined_173 rfl ok_X12_apart km_RX12_388 rfl (Nat.le_of_ble_eq_true rfl) rfl rfl rfl (Nat.le_of_ble_eq_true rfl) (Nat.lt_succ_self _) ?_
          refine s_apart (by omega) (by omega) ?_
          refine ⟨_, rfl, ?_⟩
          refine Go_iload_n (pc' := 177) dX12_joined_176 rfl rfl rfl ?_
          refine Go_icmp_gtY (tgt := 184) (pc' := 180) dX12_joined_177 (by decide) rfl (by first | exact ⟨i_lo _, i_hi _⟩ | omega) (by first | exact ⟨i_lo _, i_hi _⟩ | omega) (fun c177 => ?_) (fun c177 => ?_)
          · refine Go_iconst (v := iZ 0) (pc' := 185) dX12_joined_184 rfl (by decide) ?_
            refine Go_istore (pc' := 187) (lv' := [.ref _, .int _, .int _, .int _, .int _, .int _, .int _, .int _, .int _, .int _]) dX12_joined_185 rfl (Nat.le_of_ble_eq_true rfl) rfl rfl ?_
            refine Go_iload (pc' := 189) dX12_joined_187 rfl rfl ?_
            refine Go_if_eqY (tgt := 206) (pc' := 192) dX12_joined_189 (by decide) rfl (by first | exact ⟨i_lo _, i_hi _⟩ | omega) (fun c189 => ?_) (fun c189 => by exfalso; omega)
            refine Go_iincZ (pc' := 209) (lv' := [.ref _, .int _, .int _, .int _, .int _, .int _, .int _, .int _, .int _, .int _]) dX12_joined_206 rfl rfl (Nat.le_of_ble_eq_true rfl) rfl rfl ?_
            refine Go_goto (tgt := 93) dX12_joined_209 (by decide) ?_
            have e : fj (qj t (nrj h H R Z) i) (m + 1) j = fj (qj t (nrj h H R Z) i) m (j + 1) := fj_f (qj_f (Or.inl ht))
            rw [e] at k0 k1
            exact ih (j + 1) _ _ (by omega) k0 k1
          · refine Go_iconst (v := iZ 1) (pc' := 181) dX12_joined_180 rfl (by decide) ?_
            refine Go_goto (tgt := 185) dX12_joined_181 (by decide) ?_
            refine Go_istore (pc' := 187) (lv' := [.ref _, .int _, .int _, .int _, .int _, .int _, .int _, .int _, .int _, .int _]) dX12_joined_185 rfl (Nat.le_of_ble_eq_true rfl) rfl rfl ?_
            refine Go_iload (pc' := 189) dX12_joined_187 rfl rfl ?_
            refine Go_if_eqY (tgt := 206) (pc' := 192) dX12_joined_189 (by decide) rfl (by first | exact ⟨i_lo _, i_hi _⟩ | omega) (fun c189 => by exfalso; omega) (fun c189 => ?_)
            refine Go_aload_n (pc' := 193) dX12_joined_192 rfl rfl rfl ?_
            refine Go_getRs (pc' := 196) dX12_joined_193 rfl kf_RX12_144 (by decide) (by decide) rfl (S.b 99 rfl rfl) (S.o 99 rfl rfl rfl) (S.r 99 60 rfl rfl rfl) ?_
            refine Go_iload (pc' := 198) dX12_joined_196 rfl rfl ?_
            refine Go_baloadZ (n := 100) (k := j) (v := (iZ 1)) (pc' := 199) dX12_joined_198 rfl (S.b 141 rfl rfl) (S.k 141 rfl rfl rfl) rfl (by omega) (by decide) ((vi_setR h 141 u j).trans (tj.trans (by simp [ht]))) ?_
            refine Go_if_neY (tgt := 206) (pc' := 202) dX12_joined_199 (by decide) rfl (by first | exact ⟨i_lo _, i_hi _⟩ | omega) (fun c199 => ?_) (fun c199 => by exfalso; omega)
            refine Go_iincZ (pc' := 209) (lv' := [.ref _, .int _, .int _, .int _, .int _, .int _, .int _, .int _, .int _, .int _]) dX12_joined_206 rfl rfl (Nat.le_of_ble_eq_true rfl) rfl rfl ?_
            refine Go_goto (tgt := 93) dX12_joined_209 (by decide) ?_
            have e : fj (qj t (nrj h H R Z) i) (m + 1) j = fj (qj t (nrj h H R Z) i) m (j + 1) := fj_f (qj_f (Or.inl ht))
            rw [e] at k0 k1
            exact ih (j + 1) _ _ (by omega) k0 k1
    · refine Go_iload (pc' := 95) dX12_joined_93 rfl rfl ?_
      refine Go_aload_n (pc' := 96) dX12_joined_95 rfl rfl rfl ?_
      refine Go_getRs (pc' := 99) dX12_joined_96 rfl kf_RX12_123 (by decide) (by decide) rfl (S.b 99 rfl rfl) (S.o 99 rfl rfl rfl) (S.r 99 52 rfl rfl rfl) ?_
      refine Go_iconst (v := iZ 1) (pc' := 100) dX12_joined_99 rfl (by decide) ?_
      refine Go_ialoadZ (n := 2) (k := 1) (v := (iZ (n1 : Int))) (pc' := 101) dX12_joined_100 rfl (S.b 134 rfl rfl) (S.k 134 rfl rfl rfl) rfl (by decide) (by decide) ((viS (by decide)).trans e1m) ?_
      refine Go_icmp_geY (tgt := 212) (pc' := 104) dX12_joined_101 (by decide) rfl (by first | exact ⟨i_lo _, i_hi _⟩ | omega) (by first | exact ⟨i_lo _, i_hi _⟩ | omega) (fun c101 => by exfalso; omega) (fun c101 => ?_)
      refine Go_iload (pc' := 106) dX12_joined_104 rfl rfl ?_
      refine Go_iconst (v := iZ (-1)) (pc' := 107) dX12_joined_106 rfl (by decide) ?_
      refine Go_icmp_neY (tgt := 212) (pc' := 110) dX12_joined_107 (by decide) rfl (by first | exact ⟨i_lo _, i_hi _⟩ | omega) (by first | exact ⟨i_lo _, i_hi _⟩ | omega) (fun c107 => by exfalso; omega) (fun c107 => ?_)
      refine Go_bipush (v := iZ 100) (pc' := 112) dX12_joined_110 rfl (by decide) ?_
      refine Go_iload (pc' := 114) dX12_joined_112 rfl rfl ?_
      refine Go_iaddZ (pc' := 115) dX12_joined_114 rfl ?_
      refine Go_istore (pc' := 117) (lv' := [.ref _, .int _, .int _, .int _, .int _, .int _, .int _, .int _, .int _, _]) dX12_joined_115 rfl (Nat.le_of_ble_eq_true rfl) rfl rfl ?_
      refine Go_aload_n (pc' := 118) dX12_joined_117 rfl rfl rfl ?_
      refine Go_getRs (pc' := 121) dX12_joined_118 rfl kf_RX12_126 (by decide) (by decide) rfl (S.b 99 rfl rfl) (S.o 99 rfl rfl rfl) (S.r 99 53 rfl rfl rfl) ?_
      refine Go_iload (pc' := 123) dX12_joined_121 rfl rfl ?_
      refine Go_ialoadZ (n := 200) (k := i) (v := (iZ (vi h 84 i).toInt)) (pc' := 124) dX12_joined_123 rfl (S.b 135 rfl rfl) (S.k 135 rfl rfl rfl) rfl (by omega) (by decide) ((viS (by decide)).trans a5) ?_
      refine Go_aload_n (pc' := 125) dX12_joined_124 rfl rfl rfl ?_
      refine Go_getRs (pc' := 128) dX12_joined_125 rfl kf_RX12_126 (by decide) (by decide) rfl (S.b 99 rfl rfl) (S.o 99 rfl rfl rfl) (S.r 99 53 rfl rfl rfl) ?_
      refine Go_iload (pc' := 130) dX12_joined_128 rfl rfl ?_
      refine Go_ialoadZ (n := 200) (k := (100 + j)) (v := (iZ (vi h 90 j).toInt)) (pc' := 131) dX12_joined_130 rfl (S.b 135 rfl rfl) (S.k 135 rfl rfl rfl) (by omega) (by omega) (by decide) ((viS (by decide)).trans b5) ?_
      refine Go_callS_i (pc' := 134) (As := [.int _, .int _]) (st := []) dX12_joined_131 rfl ok_X12_apart km_RX12_388 rfl (Nat.le_of_ble_eq_true rfl) rfl rfl rfl (Nat.le_of_ble_eq_true rfl) (Nat.lt_succ_self _) ?_
      refine s_apart (by omega) (by omega) ?_
      refine ⟨_, rfl, ?_⟩
      refine Go_iload_n (pc' := 135) dX12_joined_134 rfl rfl rfl ?_
      refine Go_icmp_gtY (tgt := 184) (pc' := 138) dX12_joined_135 (by decide) rfl (by first | exact ⟨i_lo _, i_hi _⟩ | omega) (by first | exact ⟨i_lo _, i_hi _⟩ | omega) (fun c135 => ?_) (fun c135 => ?_)
      · refine Go_iconst (v := iZ 0) (pc' := 185) dX12_joined_184 rfl (by decide) ?_
        refine Go_istore (pc' := 187) (lv' := [.ref _, .int _, .int _, .int _, .int _, .int _, .int _, .int _, .int _, .int _]) dX12_joined_185 rfl (Nat.le_of_ble_eq_true rfl) rfl rfl ?_
        refine Go_iload (pc' := 189) dX12_joined_187 rfl rfl ?_
        refine Go_if_eqY (tgt := 206) (pc' := 192) dX12_joined_189 (by decide) rfl (by first | exact ⟨i_lo _, i_hi _⟩ | omega) (fun c189 => ?_) (fun c189 => by exfalso; omega)
        refine Go_iincZ (pc' := 209) (lv' := [.ref _, .int _, .int _, .int _, .int _, .int _, .int _, .int _, .int _, .int _]) dX12_joined_206 rfl rfl (Nat.le_of_ble_eq_true rfl) rfl rfl ?_
        refine Go_goto (tgt := 93) dX12_joined_209 (by decide) ?_
        have e : fj (qj t (nrj h H R Z) i) (m + 1) j = fj (qj t (nrj h H R Z) i) m (j + 1) := fj_f (qj_f (Or.inr (show ¬ nrj h H R Z i j = true from fun z => by have z := of_decide_eq_true z; omega)))
        rw [e] at k0 k1
        exact ih (j + 1) _ _ (by omega) k0 k1
      · refine Go_aload_n (pc' := 139) dX12_joined_138 rfl rfl rfl ?_
        refine Go_getRs (pc' := 142) dX12_joined_139 rfl kf_RX12_129 (by decide) (by decide) rfl (S.b 99 rfl rfl) (S.o 99 rfl rfl rfl) (S.r 99 54 rfl rfl rfl) ?_
        refine Go_iload (pc' := 144) dX12_joined_142 rfl rfl ?_
        refine Go_ialoadZ (n := 200) (k := i) (v := (iZ (40 * (vi h 86 i).toInt + (vi h 85 i).toInt))) (pc' := 145) dX12_joined_144 rfl (S.b 136 rfl rfl) (S.k 136 rfl rfl rfl) rfl (by omega) (by decide) ((viS (by decide)).trans a6) ?_
        refine Go_aload_n (pc' := 146) dX12_joined_145 rfl rfl rfl ?_
        refine Go_getRs (pc' := 149) dX12_joined_146 rfl kf_RX12_129 (by decide) (by decide) rfl (S.b 99 rfl rfl) (S.o 99 rfl rfl rfl) (S.r 99 54 rfl rfl rfl) ?_
        refine Go_iload (pc' := 151) dX12_joined_149 rfl rfl ?_
        refine Go_ialoadZ (n := 200) (k := (100 + j)) (v := (iZ (40 * (vi h 92 j).toInt + (vi h 91 j).toInt))) (pc' := 152) dX12_joined_151 rfl (S.b 136 rfl rfl) (S.k 136 rfl rfl rfl) (by omega) (by omega) (by decide) ((viS (by decide)).trans b6) ?_
        refine Go_callS_i (pc' := 155) (As := [.int _, .int _]) (st := []) dX12_joined_152 rfl ok_X12_distance km_RX12_350 rfl (Nat.le_of_ble_eq_true rfl) rfl rfl rfl (Nat.le_of_ble_eq_true rfl) (Nat.lt_succ_self _) ?_
        refine s_distX (x := (vi h 85 i).toInt) (y := (vi h 86 i).toInt) (u := (vi h 91 j).toInt) (v := (vi h 92 j).toInt) (by omega) (by omega) (by omega) (by omega) (by omega) (by omega) ?_
        refine ⟨_, rfl, ?_⟩
        refine Go_iload_n (pc' := 156) dX12_joined_155 rfl rfl rfl ?_
        refine Go_icmp_gtY (tgt := 184) (pc' := 159) dX12_joined_156 (by decide) rfl (by first | exact ⟨i_lo _, i_hi _⟩ | omega) (by first | exact ⟨i_lo _, i_hi _⟩ | omega) (fun c156 => ?_) (fun c156 => ?_)
        · refine Go_iconst (v := iZ 0) (pc' := 185) dX12_joined_184 rfl (by decide) ?_
          refine Go_istore (pc' := 187) (lv' := [.ref _, .int _, .int _, .int _, .int _, .int _, .int _, .int _, .int _, .int _]) dX12_joined_185 rfl (Nat.le_of_ble_eq_true rfl) rfl rfl ?_
          refine Go_iload (pc' := 189) dX12_joined_187 rfl rfl ?_
          refine Go_if_eqY (tgt := 206) (pc' := 192) dX12_joined_189 (by decide) rfl (by first | exact ⟨i_lo _, i_hi _⟩ | omega) (fun c189 => ?_) (fun c189 => by exfalso; omega)
          refine Go_iincZ (pc' := 209) (lv' := [.ref _, .int _, .int _, .int _, .int _, .int _, .int _, .int _, .int _, .int _]) dX12_joined_206 rfl rfl (Nat.le_of_ble_eq_true rfl) rfl rfl ?_
          refine Go_goto (tgt := 93) dX12_joined_209 (by decide) ?_
          have e : fj (qj t (nrj h H R Z) i) (m + 1) j = fj (qj t (nrj h H R Z) i) m (j + 1) := fj_f (qj_f (Or.inr (show ¬ nrj h H R Z i j = true from fun z => by have z := of_decide_eq_true z; omega)))
          rw [e] at k0 k1
          exact ih (j + 1) _ _ (by omega) k0 k1
        · refine Go_aload_n (pc' := 160) dX12_joined_159 rfl rfl rfl ?_
          refine Go_getRs (pc' := 163) dX12_joined_160 rfl kf_RX12_132 (by decide) (by decide) rfl (S.b 99 rfl rfl) (S.o 99 rfl rfl rfl) (S.r 99 55 rfl rfl rfl) ?_
          refine Go_iload (pc' := 165) dX12_joined_163 rfl rfl ?_
          refine Go_ialoadZ (n := 200) (k := i) (v := (iZ (vi h 87 i).toInt)) (pc' := 166) dX12_joined_165 rfl (S.b 137 rfl rfl) (S.k 137 rfl rfl rfl) rfl (by omega) (by decide) ((viS (by decide)).trans a7) ?_
          refine Go_aload_n (pc' := 167) dX12_joined_166 rfl rfl rfl ?_
          refine Go_getRs (pc' := 170) dX12_joined_167 rfl kf_RX12_132 (by decide) (by decide) rfl (S.b 99 rfl rfl) (S.o 99 rfl rfl rfl) (S.r 99 55 rfl rfl rfl) ?_
          refine Go_iload (pc' := 172) dX12_joined_170 rfl rfl ?_
          refine Go_ialoadZ (n := 200) (k := (100 + j)) (v := (iZ (vi h 93 j).toInt)) (pc' := 173) dX12_joined_172 rfl (S.b 137 rfl rfl) (S.k 137 rfl rfl rfl) (by omega) (by omega) (by decide) ((viS (by decide)).trans b7) ?_
          refine Go_callS_i (pc' := 176) (As := [.int _, .int _]) (st := []) dX12_joined_173 rfl ok_X12_apart km_RX12_388 rfl (Nat.le_of_ble_eq_true rfl) rfl rfl rfl (Nat.le_of_ble_eq_true rfl) (Nat.lt_succ_self _) ?_
          refine s_apart (by omega) (by omega) ?_
          refine ⟨_, rfl, ?_⟩
          refine Go_iload_n (pc' := 177) dX12_joined_176 rfl rfl rfl ?_
          refine Go_icmp_gtY (tgt := 184) (pc' := 180) dX12_joined_177 (by decide) rfl (by first | exact ⟨i_lo _, i_hi _⟩ | omega) (by first | exact ⟨i_lo _, i_hi _⟩ | omega) (fun c177 => ?_) (fun c177 => ?_)
          · refine Go_iconst (v := iZ 0) (pc' := 185) dX12_joined_184 rfl (by decide) ?_
            refine Go_istore (pc' := 187) (lv' := [.ref _, .int _, .int _, .int _, .int _, .int _, .int _, .int _, .int _, .int _]) dX12_joined_185 rfl (Nat.le_of_ble_eq_true rfl) rfl rfl ?_
            refine Go_iload (pc' := 189) dX12_joined_187 rfl rfl ?_
            refine Go_if_eqY (tgt := 206) (pc' := 192) dX12_joined_189 (by decide) rfl (by first | exact ⟨i_lo _, i_hi _⟩ | omega) (fun c189 => ?_) (fun c189 => by exfalso; omega)
            refine Go_iincZ (pc' := 209) (lv' := [.ref _, .int _, .int _, .int _, .int _, .int _, .int _, .int _, .int _, .int _]) dX12_joined_206 rfl rfl (Nat.le_of_ble_eq_true rfl) rfl rfl ?_
            refine Go_goto (tgt := 93) dX12_joined_209 (by decide) ?_
            have e : fj (qj t (nrj h H R Z) i) (m + 1) j = fj (qj t (nrj h H R Z) i) m (j + 1) := fj_f (qj_f (Or.inr (show ¬ nrj h H R Z i j = true from fun z => by have z := of_decide_eq_true z; omega)))
            rw [e] at k0 k1
            exact ih (j + 1) _ _ (by omega) k0 k1
          · refine Go_iconst (v := iZ 1) (pc' := 181) dX12_joined_180 rfl (by decide) ?_
            refine Go_goto (tgt := 185) dX12_joined_181 (by decide) ?_
            refine Go_istore (pc' := 187) (lv' := [.ref _, .int _, .int _, .int _, .int _, .int _, .int _, .int _, .int _, .int _]) dX12_joined_185 rfl (Nat.le_of_ble_eq_true rfl) rfl rfl ?_
            refine Go_iload (pc' := 189) dX12_joined_187 rfl rfl ?_
            refine Go_if_eqY (tgt := 206) (pc' := 192) dX12_joined_189 (by decide) rfl (by first | exact ⟨i_lo _, i_hi _⟩ | omega) (fun c189 => by exfalso; omega) (fun c189 => ?_)
            refine Go_aload_n (pc' := 193) dX12_joined_192 rfl rfl rfl ?_
            refine Go_getRs (pc' := 196) dX12_joined_193 rfl kf_RX12_144 (by decide) (by decide) rfl (S.b 99 rfl rfl) (S.o 99 rfl rfl rfl) (S.r 99 60 rfl rfl rfl) ?_
            refine Go_iload (pc' := 198) dX12_joined_196 rfl rfl ?_
            refine Go_baloadZ (n := 100) (k := j) (v := (iZ 0)) (pc' := 199) dX12_joined_198 rfl (S.b 141 rfl rfl) (S.k 141 rfl rfl rfl) rfl (by omega) (by decide) ((vi_setR h 141 u j).trans (tj.trans (by simp [ht]))) ?_
            refine Go_if_neY (tgt := 206) (pc' := 202) dX12_joined_199 (by decide) rfl (by first | exact ⟨i_lo _, i_hi _⟩ | omega) (fun c199 => by exfalso; omega) (fun c199 => ?_)
            refine Go_iload (pc' := 204) dX12_joined_202 rfl rfl ?_
            refine Go_istore (pc' := 206) (lv' := [.ref _, .int _, .int _, .int _, .int _, .int _, .int _, .int _, .int _, .int _]) dX12_joined_204 rfl (Nat.le_of_ble_eq_true rfl) rfl rfl ?_
            refine Go_iincZ (pc' := 209) (lv' := [.ref _, .int _, .int _, .int _, .int _, .int _, .int _, .int _, .int _, .int _]) dX12_joined_206 rfl rfl (Nat.le_of_ble_eq_true rfl) rfl rfl ?_
            refine Go_goto (tgt := 93) dX12_joined_209 (by decide) ?_
            refine Go_iload (pc' := 95) dX12_joined_93 rfl rfl ?_
            refine Go_aload_n (pc' := 96) dX12_joined_95 rfl rfl rfl ?_
            refine Go_getRs (pc' := 99) dX12_joined_96 rfl kf_RX12_123 (by decide) (by decide) rfl (S.b 99 rfl rfl) (S.o 99 rfl rfl rfl) (S.r 99 52 rfl rfl rfl) ?_
            refine Go_iconst (v := iZ 1) (pc' := 100) dX12_joined_99 rfl (by decide) ?_
            refine Go_ialoadZ (n := 2) (k := 1) (v := (iZ (n1 : Int))) (pc' := 101) dX12_joined_100 rfl (S.b 134 rfl rfl) (S.k 134 rfl rfl rfl) rfl (by decide) (by decide) ((viS (by decide)).trans e1m) ?_
            refine Go_icmp_geY (tgt := 212) (pc' := 104) dX12_joined_101 (by decide) rfl (by first | exact ⟨i_lo _, i_hi _⟩ | omega) (by first | exact ⟨i_lo _, i_hi _⟩ | omega) (fun c101 => ?_) (fun c101 => ?_)
            · exact k1 j (fj_t (qj_t ht (show nrj h H R Z i j = true from decide_eq_true ⟨by omega, by omega, by omega⟩))) _ _ _
            · refine Go_iload (pc' := 106) dX12_joined_104 rfl rfl ?_
              refine Go_iconst (v := iZ (-1)) (pc' := 107) dX12_joined_106 rfl (by decide) ?_
              refine Go_icmp_neY (tgt := 212) (pc' := 110) dX12_joined_107 (by decide) rfl (by first | exact ⟨i_lo _, i_hi _⟩ | omega) (by first | exact ⟨i_lo _, i_hi _⟩ | omega) (fun c107 => ?_) (fun c107 => by exfalso; omega)
              exact k1 j (fj_t (qj_t ht (show nrj h H R Z i j = true from decide_eq_true ⟨by omega, by omega, by omega⟩))) _ _ _
set_option maxRecDepth 20000 in
set_option maxHeartbeats 1000000 in
theorem jnM_loop {G : GC} {d mc ms : Nat} {h : HS} {K : Option Value → HS → Prop} {n0 n1 : Nat} {H R Z : Int} (S : Shp h) (h0 : n0 ≤ 100) (h1 : n1 ≤ 100) (e1m : vi h 134 1 = iZ (n1 : Int)) (C0 : Cat h 84 85 86 87 0 n0) (C1 : Cat h 90 91 92 93 100 n1) (hH : 0 ≤ H ∧ H ≤ 999) (hR : 0 ≤ R ∧ R ≤ 55) (hZ : 0 ≤ Z ∧ Z ≤ 999) (e0m : vi h 134 0 = iZ (n0 : Int)) : ∀ (m i : Nat) (t : Nat → Bool) (u : Nat → Int32) (a : Int) (v6 v7 v8 v9 : Value), i + m = n0 → Tk t u n1 → (∀ u, K (some (.int (iZ (jn (nrj h H R Z) n1 m i t a)))) (setR h 141 u)) → Go G (d + 1) mc ms M_X12_joined 76 [.ref 99, .int (iZ H), .int (iZ R), .int (iZ Z), .int (iZ a), .int (iZ (i : Int)), v6, v7, v8, v9] [] (setR h 141 u) K := by
  intro m
  induction m with
  | zero =>
    intro i t u a v6 v7 v8 v9 hi T hk
    refine Go_iload (pc' := 78) dX12_joined_76 rfl rfl ?_
    refine Go_aload_n (pc' := 79) dX12_joined_78 rfl rfl rfl ?_
    refine Go_getRs (pc' := 82) dX12_joined_79 rfl kf_RX12_123 (by decide) (by decide) rfl (S.b 99 rfl rfl) (S.o 99 rfl rfl rfl) (S.r 99 52 rfl rfl rfl) ?_
    refine Go_iconst (v := iZ 0) (pc' := 83) dX12_joined_82 rfl (by decide) ?_
    refine Go_ialoadZ (n := 2) (k := 0) (v := (iZ (n0 : Int))) (pc' := 84) dX12_joined_83 rfl (S.b 134 rfl rfl) (S.k 134 rfl rfl rfl) rfl (by decide) (by decide) ((viS (by decide)).trans e0m) ?_
    refine Go_icmp_geY (tgt := 238) (pc' := 87) dX12_joined_84 (by decide) rfl (by first | exact ⟨i_lo _, i_hi _⟩ | omega) (by first | exact ⟨i_lo _, i_hi _⟩ | omega) (fun c84 => ?_) (fun c84 => by exfalso; omega)
    refine Go_iload (pc' := 240) dX12_joined_238 rfl rfl ?_
    refine Go_ireturn (ty := .int) dX12_joined_240 rfl rfl ?_
    exact hk u
  | succ m ih =>
    intro i t u a v6 v7 v8 v9 hi T hk
    refine Go_iload (pc' := 78) dX12_joined_76 rfl rfl ?_
    refine Go_aload_n (pc' := 79) dX12_joined_78 rfl rfl rfl ?_
    refine Go_getRs (pc' := 82) dX12_joined_79 rfl kf_RX12_123 (by decide) (by decide) rfl (S.b 99 rfl rfl) (S.o 99 rfl rfl rfl) (S.r 99 52 rfl rfl rfl) ?_
    refine Go_iconst (v := iZ 0) (pc' := 83) dX12_joined_82 rfl (by decide) ?_
    refine Go_ialoadZ (n := 2) (k := 0) (v := (iZ (n0 : Int))) (pc' := 84) dX12_joined_83 rfl (S.b 134 rfl rfl) (S.k 134 rfl rfl rfl) rfl (by decide) (by decide) ((viS (by decide)).trans e0m) ?_
    refine Go_icmp_geY (tgt := 238) (pc' := 87) dX12_joined_84 (by decide) rfl (by first | exact ⟨i_lo _, i_hi _⟩ | omega) (by first | exact ⟨i_lo _, i_hi _⟩ | omega) (fun c84 => by exfalso; omega) (fun c84 => ?_)
    refine Go_iconst (v := iZ (-1)) (pc' := 88) dX12_joined_87 rfl (by decide) ?_
    refine Go_istore (pc' := 90) (lv' := [.ref _, .int _, .int _, .int _, .int _, .int _, .int _, _, _, _]) dX12_joined_88 rfl (Nat.le_of_ble_eq_true rfl) rfl rfl ?_
    refine Go_iconst (v := iZ 0) (pc' := 91) dX12_joined_90 rfl (by decide) ?_
    refine Go_istore (pc' := 93) (lv' := [.ref _, .int _, .int _, .int _, .int _, .int _, .int _, .int _, _, _]) dX12_joined_91 rfl (Nat.le_of_ble_eq_true rfl) rfl rfl ?_
    refine in_loop S h0 h1 e1m C0 C1 hH hR hZ (by omega) T n1 0 _ _ (Nat.zero_add n1) (fun fe y v8 v9 => ?_) (fun x fe y v8 v9 => ?_)
    · refine Go_iload (pc' := 214) dX12_joined_212 rfl rfl ?_
      refine Go_iconst (v := iZ (-1)) (pc' := 215) dX12_joined_214 rfl (by decide) ?_
      refine Go_icmp_neY (tgt := 221) (pc' := 218) dX12_joined_215 (by decide) rfl (by first | exact ⟨i_lo _, i_hi _⟩ | omega) (by first | exact ⟨i_lo _, i_hi _⟩ | omega) (fun c215 => by exfalso; omega) (fun c215 => ?_)
      refine Go_goto (tgt := 232) dX12_joined_218 (by decide) ?_
      refine Go_iincZ (pc' := 235) (lv' := [.ref _, .int _, .int _, .int _, .int _, .int _, .int _, .int _, _, _]) dX12_joined_232 rfl rfl (Nat.le_of_ble_eq_true rfl) rfl rfl ?_
      refine Go_goto (tgt := 76) dX12_joined_235 (by decide) ?_
      rw [jn_n fe] at hk
      exact ih (i + 1) _ _ _ _ _ _ _ (by omega) T hk
    · have xl := fj_lt fe
      refine Go_iload (pc' := 214) dX12_joined_212 rfl rfl ?_
      refine Go_iconst (v := iZ (-1)) (pc' := 215) dX12_joined_214 rfl (by decide) ?_
      refine Go_icmp_neY (tgt := 221) (pc' := 218) dX12_joined_215 (by decide) rfl (by first | exact ⟨i_lo _, i_hi _⟩ | omega) (by first | exact ⟨i_lo _, i_hi _⟩ | omega) (fun c215 => ?_) (fun c215 => by exfalso; omega)
      refine Go_aload_n (pc' := 222) dX12_joined_221 rfl rfl rfl ?_
      refine Go_getRs (pc' := 225) dX12_joined_222 rfl kf_RX12_144 (by decide) (by decide) rfl (S.b 99 rfl rfl) (S.o 99 rfl rfl rfl) (S.r 99 60 rfl rfl rfl) ?_
      refine Go_iload (pc' := 227) dX12_joined_225 rfl rfl ?_
      refine Go_iconst (v := iZ 1) (pc' := 228) dX12_joined_227 rfl (by decide) ?_
      refine Go_bastoreZ (n := 100) (k := x) (pc' := 229) dX12_joined_228 rfl (S.b 141 rfl rfl) (S.k 141 rfl rfl rfl) rfl (by omega) (by decide) (by decide) ?_
      refine Go_iincZ (pc' := 232) (lv' := [.ref _, .int _, .int _, .int _, .int _, .int _, .int _, .int _, _, _]) dX12_joined_229 rfl rfl (Nat.le_of_ble_eq_true rfl) rfl rfl ?_
      refine Go_iincZ (pc' := 235) (lv' := [.ref _, .int _, .int _, .int _, .int _, .int _, .int _, .int _, _, _]) dX12_joined_232 rfl rfl (Nat.le_of_ble_eq_true rfl) rfl rfl ?_
      refine Go_goto (tgt := 76) dX12_joined_235 (by decide) ?_
      rw [setR_wI]
      rw [jn_s fe] at hk
      exact ih (i + 1) _ _ _ _ _ _ _ (by omega) T.put hk
set_option maxRecDepth 20000 in
set_option maxHeartbeats 1000000 in
theorem pair36 {G : GC} (a b c : Int32) : PairI G M_X11_joined M_X12_joined [.int a, .int b, .int c] := by
  intro h I
  obtain ⟨Az, hva, rfl⟩ := i_eta a
  obtain ⟨Bz, hvb, rfl⟩ := i_eta b
  obtain ⟨Cz, hvc, rfl⟩ := i_eta c
  by_cases hc : (0 ≤ Az ∧ Az ≤ 999) ∧ (0 ≤ Bz ∧ Bz ≤ 55) ∧ (0 ≤ Cz ∧ Cz ≤ 999)
  · obtain ⟨hH, hR, hZ⟩ := hc
    obtain ⟨n0, h0, e0⟩ := of_rgZ (b := 100) I.E.1.2
    have e0m : vi h 134 0 = iZ (n0 : Int) := I.E.1.1.symm.trans e0
    obtain ⟨n1, h1, e1⟩ := of_rgZ (b := 100) I.E.2.1.2
    have e1m : vi h 134 1 = iZ (n1 : Int) := I.E.2.1.1.symm.trans e1
    refine ⟨fun r h1 => ∃ u, h1 = setR h 94 u ∧ r = iZ (jn (nrj h Az Bz Cz) n1 n0 0 (fun _ => false) ((n0 : Int) + n1)), fun K k => ?_, ?_⟩
    · refine Go.more (d := 60) (mc := 0) (ms := 0) ?_ (by omega) (by omega) (by omega)
      show Go G 60 0 0 M_X11_joined 0 [.ref 64, .int (iZ Az), .int (iZ Bz), .int (iZ Cz), un, un] [] h K
      refine Go_iload_n (pc' := 1) dX11_joined_0 rfl rfl rfl ?_
      refine Go_iconst (v := iZ 0) (pc' := 2) dX11_joined_1 rfl (by decide) ?_
      refine Go_sipush (v := iZ 999) (pc' := 5) dX11_joined_2 rfl (by decide) ?_
      refine Go_callS_i (pc' := 8) (As := [.int _, .int _, .int _]) (st := []) dX11_joined_5 rfl ok_X11_within km_RX11_94 rfl (Nat.le_of_ble_eq_true rfl) rfl rfl rfl (Nat.le_of_ble_eq_true rfl) (Nat.lt_succ_self _) ?_
      refine s_withinY (by first | exact ⟨i_lo _, i_hi _⟩ | omega) (by first | exact ⟨i_lo _, i_hi _⟩ | omega) (by first | exact ⟨i_lo _, i_hi _⟩ | omega) ?_
      refine ⟨_, rfl, ?_⟩
      refine Go_if_eqb (tgt := 32) (pc' := 11) dX11_joined_8 (by decide) rfl (fun c8 => by exfalso; omega) (fun c8 => ?_)
      refine Go_iload_n (pc' := 12) dX11_joined_11 rfl rfl rfl ?_
      refine Go_iconst (v := iZ 0) (pc' := 13) dX11_joined_12 rfl (by decide) ?_
      refine Go_bipush (v := iZ 55) (pc' := 15) dX11_joined_13 rfl (by decide) ?_
      refine Go_callS_i (pc' := 18) (As := [.int _, .int _, .int _]) (st := []) dX11_joined_15 rfl ok_X11_within km_RX11_94 rfl (Nat.le_of_ble_eq_true rfl) rfl rfl rfl (Nat.le_of_ble_eq_true rfl) (Nat.lt_succ_self _) ?_
      refine s_withinY (by first | exact ⟨i_lo _, i_hi _⟩ | omega) (by first | exact ⟨i_lo _, i_hi _⟩ | omega) (by first | exact ⟨i_lo _, i_hi _⟩ | omega) ?_
      refine ⟨_, rfl, ?_⟩
      refine Go_if_eqb (tgt := 32) (pc' := 21) dX11_joined_18 (by decide) rfl (fun c18 => by exfalso; omega) (fun c18 => ?_)
      refine Go_iload_n (pc' := 22) dX11_joined_21 rfl rfl rfl ?_
      refine Go_iconst (v := iZ 0) (pc' := 23) dX11_joined_22 rfl (by decide) ?_
      refine Go_sipush (v := iZ 999) (pc' := 26) dX11_joined_23 rfl (by decide) ?_
      refine Go_callS_i (pc' := 29) (As := [.int _, .int _, .int _]) (st := []) dX11_joined_26 rfl ok_X11_within km_RX11_94 rfl (Nat.le_of_ble_eq_true rfl) rfl rfl rfl (Nat.le_of_ble_eq_true rfl) (Nat.lt_succ_self _) ?_
      refine s_withinY (by first | exact ⟨i_lo _, i_hi _⟩ | omega) (by first | exact ⟨i_lo _, i_hi _⟩ | omega) (by first | exact ⟨i_lo _, i_hi _⟩ | omega) ?_
      refine ⟨_, rfl, ?_⟩
      refine Go_if_neb (tgt := 34) (pc' := 32) dX11_joined_29 (by decide) rfl (fun c29 => ?_) (fun c29 => by exfalso; omega)
      refine Go_aload_n (pc' := 35) dX11_joined_34 rfl rfl rfl ?_
      refine Go_getRs (pc' := 38) dX11_joined_35 rfl kf_RX11_70 (by decide) (by decide) rfl (I.S.b 64 rfl rfl) (I.S.o 64 rfl rfl rfl) (I.S.r 64 12 rfl rfl rfl) ?_
      refine Go_callV_v (pc' := 41) (As := []) (st := []) dX11_joined_38 rfl ok_X1_freeAll km_RX11_327 (I.S.o 89 rfl rfl rfl) (I.S.b 89 rfl rfl) ⟨_, _, rfl⟩ rfl (Nat.le_of_ble_eq_true rfl) rfl rfl rfl (Nat.le_of_ble_eq_true rfl) (Nat.lt_succ_self _) ?_
      refine Go_iconst (v := iZ 0) (pc' := 1) dX1_freeAll_0 rfl (by decide) ?_
      refine Go_istore_n (pc' := 2) (lv' := [.ref _, .int _]) dX1_freeAll_1 rfl rfl (Nat.le_of_ble_eq_true rfl) rfl rfl ?_
      rw [← setR_self h 94]
      refine free_loop I.S h1 e1 (fun u T => ?_) n1 0 (vi h 94) (Nat.zero_add n1) (fun k hk => absurd hk (Nat.not_lt_zero k))
      refine ⟨rfl, ?_⟩
      refine Go_aload_n (pc' := 42) dX11_joined_41 rfl rfl rfl ?_
      refine Go_getRs (pc' := 45) dX11_joined_42 rfl kf_RX11_66 (by decide) (by decide) rfl (I.S.b 64 rfl rfl) (I.S.o 64 rfl rfl rfl) (I.S.r 64 11 rfl rfl rfl) ?_
      refine Go_getIv (v := (iZ (n0 : Int))) (pc' := 48) dX11_joined_45 rfl kf_RX11_330 (by decide) (by decide) rfl (I.S.b 83 rfl rfl) (I.S.o 83 rfl rfl rfl) ((viS (by decide)).trans e0) ?_
      refine Go_aload_n (pc' := 49) dX11_joined_48 rfl rfl rfl ?_
      refine Go_getRs (pc' := 52) dX11_joined_49 rfl kf_RX11_70 (by decide) (by decide) rfl (I.S.b 64 rfl rfl) (I.S.o 64 rfl rfl rfl) (I.S.r 64 12 rfl rfl rfl) ?_
      refine Go_getIv (v := (iZ (n1 : Int))) (pc' := 55) dX11_joined_52 rfl kf_RX11_330 (by decide) (by decide) rfl (I.S.b 89 rfl rfl) (I.S.o 89 rfl rfl rfl) ((viS (by decide)).trans e1) ?_
      refine Go_iaddZ (pc' := 56) dX11_joined_55 rfl ?_
      refine Go_istore (pc' := 58) (lv' := [.ref _, .int _, .int _, .int _, .int _, un]) dX11_joined_56 rfl (Nat.le_of_ble_eq_true rfl) rfl rfl ?_
      refine Go_iconst (v := iZ 0) (pc' := 59) dX11_joined_58 rfl (by decide) ?_
      refine Go_istore (pc' := 61) (lv' := [.ref _, .int _, .int _, .int _, .int _, .int _]) dX11_joined_59 rfl (Nat.le_of_ble_eq_true rfl) rfl rfl ?_
      exact jn_loop I.S I.D h0 h1 e1 (I.E.cat0 e0 h0) (I.E.cat1 e1 h1) hH hR hZ e0 n0 0 _ u _ (Nat.zero_add n0) T (fun u => k _ _ ⟨u, rfl, rfl⟩ I.S)
    · rintro r h1 ⟨w, rfl, rfl⟩ K k
      have I2 : Inv (setR h 94 w) := I.set (Or.inl rfl)
      have en : nrj (setR h 94 w) Az Bz Cz = nrj h Az Bz Cz := rfl
      show Go G 60 0 0 M_X12_joined 0 [.ref 99, .int (iZ Az), .int (iZ Bz), .int (iZ Cz), un, un, un, un, un, un] [] (setR h 94 w) K
      refine Go_iload_n (pc' := 1) dX12_joined_0 rfl rfl rfl ?_
      refine Go_iconst (v := iZ 0) (pc' := 2) dX12_joined_1 rfl (by decide) ?_
      refine Go_sipush (v := iZ 999) (pc' := 5) dX12_joined_2 rfl (by decide) ?_
      refine Go_callS_i (pc' := 8) (As := [.int _, .int _, .int _]) (st := []) dX12_joined_5 rfl ok_X12_isIn km_RX12_147 rfl (Nat.le_of_ble_eq_true rfl) rfl rfl rfl (Nat.le_of_ble_eq_true rfl) (Nat.lt_succ_self _) ?_
      refine s_isInY (by first | exact ⟨i_lo _, i_hi _⟩ | omega) (by first | exact ⟨i_lo _, i_hi _⟩ | omega) (by first | exact ⟨i_lo _, i_hi _⟩ | omega) ?_
      refine ⟨_, rfl, ?_⟩
      refine Go_if_eqb (tgt := 32) (pc' := 11) dX12_joined_8 (by decide) rfl (fun c8 => by exfalso; omega) (fun c8 => ?_)
      refine Go_iload_n (pc' := 12) dX12_joined_11 rfl rfl rfl ?_
      refine Go_iconst (v := iZ 0) (pc' := 13) dX12_joined_12 rfl (by decide) ?_
      refine Go_bipush (v := iZ 55) (pc' := 15) dX12_joined_13 rfl (by decide) ?_
      refine Go_callS_i (pc' := 18) (As := [.int _, .int _, .int _]) (st := []) dX12_joined_15 rfl ok_X12_isIn km_RX12_147 rfl (Nat.le_of_ble_eq_true rfl) rfl rfl rfl (Nat.le_of_ble_eq_true rfl) (Nat.lt_succ_self _) ?_
      refine s_isInY (by first | exact ⟨i_lo _, i_hi _⟩ | omega) (by first | exact ⟨i_lo _, i_hi _⟩ | omega) (by first | exact ⟨i_lo _, i_hi _⟩ | omega) ?_
      refine ⟨_, rfl, ?_⟩
      refine Go_if_eqb (tgt := 32) (pc' := 21) dX12_joined_18 (by decide) rfl (fun c18 => by exfalso; omega) (fun c18 => ?_)
      refine Go_iload_n (pc' := 22) dX12_joined_21 rfl rfl rfl ?_
      refine Go_iconst (v := iZ 0) (pc' := 23) dX12_joined_22 rfl (by decide) ?_
      refine Go_sipush (v := iZ 999) (pc' := 26) dX12_joined_23 rfl (by decide) ?_
      refine Go_callS_i (pc' := 29) (As := [.int _, .int _, .int _]) (st := []) dX12_joined_26 rfl ok_X12_isIn km_RX12_147 rfl (Nat.le_of_ble_eq_true rfl) rfl rfl rfl (Nat.le_of_ble_eq_true rfl) (Nat.lt_succ_self _) ?_
      refine s_isInY (by first | exact ⟨i_lo _, i_hi _⟩ | omega) (by first | exact ⟨i_lo _, i_hi _⟩ | omega) (by first | exact ⟨i_lo _, i_hi _⟩ | omega) ?_
      refine ⟨_, rfl, ?_⟩
      refine Go_if_neb (tgt := 34) (pc' := 32) dX12_joined_29 (by decide) rfl (fun c29 => ?_) (fun c29 => by exfalso; omega)
      refine Go_iconst (v := iZ 0) (pc' := 35) dX12_joined_34 rfl (by decide) ?_
      refine Go_istore (pc' := 37) (lv' := [.ref _, .int _, .int _, .int _, .int _, un, un, un, un, un]) dX12_joined_35 rfl (Nat.le_of_ble_eq_true rfl) rfl rfl ?_
      rw [← setR_self (setR h 94 w) 141]
      refine clr_loop I2.S (fun u x T => ?_) 100 0 _ rfl (fun k hk => absurd hk (Nat.not_lt_zero k))
      refine Go_aload_n (pc' := 59) dX12_joined_58 rfl rfl rfl ?_
      refine Go_getRs (pc' := 62) dX12_joined_59 rfl kf_RX12_123 (by decide) (by decide) rfl (I2.S.b 99 rfl rfl) (I2.S.o 99 rfl rfl rfl) (I2.S.r 99 52 rfl rfl rfl) ?_
      refine Go_iconst (v := iZ 0) (pc' := 63) dX12_joined_62 rfl (by decide) ?_
      refine Go_ialoadZ (n := 2) (k := 0) (v := (iZ (n0 : Int))) (pc' := 64) dX12_joined_63 rfl (I2.S.b 134 rfl rfl) (I2.S.k 134 rfl rfl rfl) rfl (by decide) (by decide) ((viS (by decide)).trans ((viS (by decide)).trans e0m)) ?_
      refine Go_aload_n (pc' := 65) dX12_joined_64 rfl rfl rfl ?_
      refine Go_getRs (pc' := 68) dX12_joined_65 rfl kf_RX12_123 (by decide) (by decide) rfl (I2.S.b 99 rfl rfl) (I2.S.o 99 rfl rfl rfl) (I2.S.r 99 52 rfl rfl rfl) ?_
      refine Go_iconst (v := iZ 1) (pc' := 69) dX12_joined_68 rfl (by decide) ?_
      refine Go_ialoadZ (n := 2) (k := 1) (v := (iZ (n1 : Int))) (pc' := 70) dX12_joined_69 rfl (I2.S.b 134 rfl rfl) (I2.S.k 134 rfl rfl rfl) rfl (by decide) (by decide) ((viS (by decide)).trans ((viS (by decide)).trans e1m)) ?_
      refine Go_iaddZ (pc' := 71) dX12_joined_70 rfl ?_
      refine Go_istore (pc' := 73) (lv' := [.ref _, .int _, .int _, .int _, .int _, un, un, un, un, un]) dX12_joined_71 rfl (Nat.le_of_ble_eq_true rfl) rfl rfl ?_
      refine Go_iconst (v := iZ 0) (pc' := 74) dX12_joined_73 rfl (by decide) ?_
      refine Go_istore (pc' := 76) (lv' := [.ref _, .int _, .int _, .int _, .int _, .int _, un, un, un, un]) dX12_joined_74 rfl (Nat.le_of_ble_eq_true rfl) rfl rfl ?_
      refine jnM_loop I2.S h0 h1 ((viS (by decide)).trans e1m) (I2.E.cat0 ((viS (by decide)).trans e0) h0) (I2.E.cat1 ((viS (by decide)).trans e1) h1) hH hR hZ ((viS (by decide)).trans e0m) n0 0 (fun _ => false) u _ _ _ _ _ (Nat.zero_add n0) (fun k hk => T k (by omega)) (fun u => ?_)
      rw [en]
      exact k _ (I2.set (Or.inr rfl))
  · refine PairI.ro' (fun _ => iZ (-1)) h I (fun K k => ?_) (fun K k => ?_)
    · show Go G 60 0 0 M_X11_joined 0 [.ref 64, .int (iZ Az), .int (iZ Bz), .int (iZ Cz), un, un] [] h K
      refine Go_iload_n (pc' := 1) dX11_joined_0 rfl rfl rfl ?_
      refine Go_iconst (v := iZ 0) (pc' := 2) dX11_joined_1 rfl (by decide) ?_
      refine Go_sipush (v := iZ 999) (pc' := 5) dX11_joined_2 rfl (by decide) ?_
      refine Go_callS_i (pc' := 8) (As := [.int _, .int _, .int _]) (st := []) dX11_joined_5 rfl ok_X11_within km_RX11_94 rfl (Nat.le_of_ble_eq_true rfl) rfl rfl rfl (Nat.le_of_ble_eq_true rfl) (Nat.lt_succ_self _) ?_
      refine s_withinY (by first | exact ⟨i_lo _, i_hi _⟩ | omega) (by first | exact ⟨i_lo _, i_hi _⟩ | omega) (by first | exact ⟨i_lo _, i_hi _⟩ | omega) ?_
      refine ⟨_, rfl, ?_⟩
      refine Go_if_eqb (tgt := 32) (pc' := 11) dX11_joined_8 (by decide) rfl (fun c8 => ?_) (fun c8 => ?_)
      · refine Go_iconst (v := iZ (-1)) (pc' := 33) dX11_joined_32 rfl (by decide) ?_
        refine Go_ireturn (ty := .int) dX11_joined_33 rfl rfl ?_
        exact k
      · refine Go_iload_n (pc' := 12) dX11_joined_11 rfl rfl rfl ?_
        refine Go_iconst (v := iZ 0) (pc' := 13) dX11_joined_12 rfl (by decide) ?_
        refine Go_bipush (v := iZ 55) (pc' := 15) dX11_joined_13 rfl (by decide) ?_
        refine Go_callS_i (pc' := 18) (As := [.int _, .int _, .int _]) (st := []) dX11_joined_15 rfl ok_X11_within km_RX11_94 rfl (Nat.le_of_ble_eq_true rfl) rfl rfl rfl (Nat.le_of_ble_eq_true rfl) (Nat.lt_succ_self _) ?_
        refine s_withinY (by first | exact ⟨i_lo _, i_hi _⟩ | omega) (by first | exact ⟨i_lo _, i_hi _⟩ | omega) (by first | exact ⟨i_lo _, i_hi _⟩ | omega) ?_
        refine ⟨_, rfl, ?_⟩
        refine Go_if_eqb (tgt := 32) (pc' := 21) dX11_joined_18 (by decide) rfl (fun c18 => ?_) (fun c18 => ?_)
        · refine Go_iconst (v := iZ (-1)) (pc' := 33) dX11_joined_32 rfl (by decide) ?_
          refine Go_ireturn (ty := .int) dX11_joined_33 rfl rfl ?_
          exact k
        · refine Go_iload_n (pc' := 22) dX11_joined_21 rfl rfl rfl ?_
          refine Go_iconst (v := iZ 0) (pc' := 23) dX11_joined_22 rfl (by decide) ?_
          refine Go_sipush (v := iZ 999) (pc' := 26) dX11_joined_23 rfl (by decide) ?_
          refine Go_callS_i (pc' := 29) (As := [.int _, .int _, .int _]) (st := []) dX11_joined_26 rfl ok_X11_within km_RX11_94 rfl (Nat.le_of_ble_eq_true rfl) rfl rfl rfl (Nat.le_of_ble_eq_true rfl) (Nat.lt_succ_self _) ?_
          refine s_withinY (by first | exact ⟨i_lo _, i_hi _⟩ | omega) (by first | exact ⟨i_lo _, i_hi _⟩ | omega) (by first | exact ⟨i_lo _, i_hi _⟩ | omega) ?_
          refine ⟨_, rfl, ?_⟩
          refine Go_if_neb (tgt := 34) (pc' := 32) dX11_joined_29 (by decide) rfl (fun c29 => ?_) (fun c29 => ?_)
          · exfalso; omega
          · refine Go_iconst (v := iZ (-1)) (pc' := 33) dX11_joined_32 rfl (by decide) ?_
            refine Go_ireturn (ty := .int) dX11_joined_33 rfl rfl ?_
            exact k
    · show Go G 60 0 0 M_X12_joined 0 [.ref 99, .int (iZ Az), .int (iZ Bz), .int (iZ Cz), un, un, un, un, un, un] [] h K
      refine Go_iload_n (pc' := 1) dX12_joined_0 rfl rfl rfl ?_
      refine Go_iconst (v := iZ 0) (pc' := 2) dX12_joined_1 rfl (by decide) ?_
      refine Go_sipush (v := iZ 999) (pc' := 5) dX12_joined_2 rfl (by decide) ?_
      refine Go_callS_i (pc' := 8) (As := [.int _, .int _, .int _]) (st := []) dX12_joined_5 rfl ok_X12_isIn km_RX12_147 rfl (Nat.le_of_ble_eq_true rfl) rfl rfl rfl (Nat.le_of_ble_eq_true rfl) (Nat.lt_succ_self _) ?_
      refine s_isInY (by first | exact ⟨i_lo _, i_hi _⟩ | omega) (by first | exact ⟨i_lo _, i_hi _⟩ | omega) (by first | exact ⟨i_lo _, i_hi _⟩ | omega) ?_
      refine ⟨_, rfl, ?_⟩
      refine Go_if_eqb (tgt := 32) (pc' := 11) dX12_joined_8 (by decide) rfl (fun c8 => ?_) (fun c8 => ?_)
      · refine Go_iconst (v := iZ (-1)) (pc' := 33) dX12_joined_32 rfl (by decide) ?_
        refine Go_ireturn (ty := .int) dX12_joined_33 rfl rfl ?_
        exact k
      · refine Go_iload_n (pc' := 12) dX12_joined_11 rfl rfl rfl ?_
        refine Go_iconst (v := iZ 0) (pc' := 13) dX12_joined_12 rfl (by decide) ?_
        refine Go_bipush (v := iZ 55) (pc' := 15) dX12_joined_13 rfl (by decide) ?_
        refine Go_callS_i (pc' := 18) (As := [.int _, .int _, .int _]) (st := []) dX12_joined_15 rfl ok_X12_isIn km_RX12_147 rfl (Nat.le_of_ble_eq_true rfl) rfl rfl rfl (Nat.le_of_ble_eq_true rfl) (Nat.lt_succ_self _) ?_
        refine s_isInY (by first | exact ⟨i_lo _, i_hi _⟩ | omega) (by first | exact ⟨i_lo _, i_hi _⟩ | omega) (by first | exact ⟨i_lo _, i_hi _⟩ | omega) ?_
        refine ⟨_, rfl, ?_⟩
        refine Go_if_eqb (tgt := 32) (pc' := 21) dX12_joined_18 (by decide) rfl (fun c18 => ?_) (fun c18 => ?_)
        · refine Go_iconst (v := iZ (-1)) (pc' := 33) dX12_joined_32 rfl (by decide) ?_
          refine Go_ireturn (ty := .int) dX12_joined_33 rfl rfl ?_
          exact k
        · refine Go_iload_n (pc' := 22) dX12_joined_21 rfl rfl rfl ?_
          refine Go_iconst (v := iZ 0) (pc' := 23) dX12_joined_22 rfl (by decide) ?_
          refine Go_sipush (v := iZ 999) (pc' := 26) dX12_joined_23 rfl (by decide) ?_
          refine Go_callS_i (pc' := 29) (As := [.int _, .int _, .int _]) (st := []) dX12_joined_26 rfl ok_X12_isIn km_RX12_147 rfl (Nat.le_of_ble_eq_true rfl) rfl rfl rfl (Nat.le_of_ble_eq_true rfl) (Nat.lt_succ_self _) ?_
          refine s_isInY (by first | exact ⟨i_lo _, i_hi _⟩ | omega) (by first | exact ⟨i_lo _, i_hi _⟩ | omega) (by first | exact ⟨i_lo _, i_hi _⟩ | omega) ?_
          refine ⟨_, rfl, ?_⟩
          refine Go_if_neb (tgt := 34) (pc' := 32) dX12_joined_29 (by decide) rfl (fun c29 => ?_) (fun c29 => ?_)
          · exfalso; omega
          · refine Go_iconst (v := iZ (-1)) (pc' := 33) dX12_joined_32 rfl (by decide) ?_
            refine Go_ireturn (ty := .int) dX12_joined_33 rfl rfl ?_
            exact k
