/-! rules: the stack, the steps, the class's judge -/
/-- a stack in a row: its bottom at 0 -/
def St (u : Nat → Int32) (st : List Int32) : Prop := ∀ k, k < st.length → u k = st.getD (st.length - 1 - k) 0
theorem St.push {u : Nat → Int32} {st : List Int32} {v : Int32} (s : St u st) : St (upd u st.length v) (v :: st) := by
  intro k hk
  rw [List.length_cons] at hk
  unfold upd
  by_cases c : k = st.length
  · subst c
    simp
  · rw [if_neg c, s k (by omega), List.length_cons, show st.length + 1 - 1 - k = (st.length - 1 - k) + 1 by omega, List.getD_cons_succ]
theorem St.top {u : Nat → Int32} {st : List Int32} {v : Int32} (s : St u (v :: st)) : u st.length = v := by
  have := s st.length (by simp)
  rw [this]; simp
theorem St.tl {u : Nat → Int32} {st : List Int32} {v : Int32} (s : St u (v :: st)) : St u st := by
  intro k hk
  rw [s k (by simp; omega), List.length_cons, show st.length + 1 - 1 - k = (st.length - 1 - k) + 1 by omega, List.getD_cons_succ]
def pushC (st : List Int32) (v : Int32) : List Int32 := if st.length < 40 then v :: st else st
theorem pushC_t {st : List Int32} {v : Int32} (h : st.length < 40) : pushC st v = v :: st := if_pos h
theorem pushC_f {st : List Int32} {v : Int32} (h : ¬ st.length < 40) : pushC st v = st := if_neg h
theorem hT_f {h : HS} {i o k : Nat} {u : Nat → Int32} {n n' : Int} : wI (hT h i o k u n) o k (iZ n') = hT h i o k u n' := by
  unfold hT wI setR
  refine Prod.ext rfl (Prod.ext rfl (Prod.ext ?_ rfl))
  funext a b
  simp only
  by_cases c : a = o ∧ b = k
  · rw [if_pos c, if_pos c]
  · rw [if_neg c, if_neg c, if_neg c]
/-- a rules' program: the object, its steps, its values -/
def QPr (h : HS) (q : Nat) : Prop := (64 ≤ q ∧ q < 64 + hN h) ∧ (ki h q).1 = 8 ∧ ri h q 0 = some (q + 1) ∧ ri h q 3 = some (q + 2) ∧ (64 ≤ q + 1 ∧ q + 1 < 64 + hN h) ∧ ki h (q + 1) = (20, 600) ∧ (64 ≤ q + 2 ∧ q + 2 < 64 + hN h) ∧ ki h (q + 2) = (20, 40)
theorem qpr_of {h : HS} {q : Nat} (S : Shp h) (hq : q = 74 ∨ q = 77) : QPr h q := by
  rcases hq with rfl | rfl
  · exact ⟨S.b 74 rfl rfl, S.o 74 rfl rfl rfl, S.r 74 0 rfl rfl rfl, S.r 74 3 rfl rfl rfl, S.b 75 rfl rfl, S.k 75 rfl rfl rfl, S.b 76 rfl rfl, S.k 76 rfl rfl rfl⟩
  · exact ⟨S.b 77 rfl rfl, S.o 77 rfl rfl rfl, S.r 77 0 rfl rfl rfl, S.r 77 3 rfl rfl rfl, S.b 78 rfl rfl, S.k 78 rfl rfl rfl, S.b 79 rfl rfl, S.k 79 rfl rfl rfl⟩
/-- two values joined; k as the model numbers it -/
def bopV (k : Nat) (a b : Int32) : Int32 := match k with
  | 8 => a + b
  | 9 => a - b
  | 10 => a * b
  | 11 => if b = 0 then 0 else a / b
  | 12 => if a.toInt < b.toInt then 1 else 0
  | 13 => if a.toInt = b.toInt then 1 else 0
  | 14 => if b.toInt < a.toInt then 1 else 0
  | 16 => a &&& b
  | _ => a ||| b

set_option maxRecDepth 20000 in
set_option maxHeartbeats 1000000 in
theorem s_push {G : GC} {d mc ms : Nat} {h : HS} {K : Option Value → HS → Prop} {q : Nat} {st : List Int32} {u : Nat → Int32} {n : Int} (QP : QPr h q) (hn : n = (st.length : Int)) (hl : st.length ≤ 40) (hs : St u st) {v : Int32} (hk : ∀ (u' : Nat → Int32) (n' : Int), n' = ((pushC st v).length : Int) → (pushC st v).length ≤ 40 → St u' (pushC st v) → K none (hT h (q + 2) q 4 u' n')) : Go G d mc ms M_X8_push 0 [.ref q, .int v] [] (hT h (q + 2) q 4 u n) K := by
  refine Go_aload_n (pc' := 1) dX8_push_0 rfl rfl rfl ?_
  refine Go_getIv (v := (iZ n)) (pc' := 4) dX8_push_1 rfl kf_RX8_29 (by decide) (by decide) rfl QP.1 QP.2.1 (hT_n) ?_
  refine Go_aload_n (pc' := 5) dX8_push_4 rfl rfl rfl ?_
  refine Go_getRs (pc' := 8) dX8_push_5 rfl kf_RX8_15 (by decide) (by decide) rfl QP.1 QP.2.1 QP.2.2.2.1 ?_
  refine Go_alenZ (n := 40) (pc' := 9) dX8_push_8 rfl QP.2.2.2.2.2.2.1 QP.2.2.2.2.2.2.2 (Or.inl rfl) ?_
  refine Go_icmp_geY (tgt := 32) (pc' := 12) dX8_push_9 (by decide) rfl (by first | exact ⟨i_lo _, i_hi _⟩ | omega) (by first | exact ⟨i_lo _, i_hi _⟩ | omega) (fun c9 => ?_) (fun c9 => ?_)
  · refine Go_return dX8_push_32 rfl ?_
    rw [pushC_f (by omega)] at hk
    exact hk u n hn hl hs
  · refine Go_aload_n (pc' := 13) dX8_push_12 rfl rfl rfl ?_
    refine Go_getRs (pc' := 16) dX8_push_13 rfl kf_RX8_15 (by decide) (by decide) rfl QP.1 QP.2.1 QP.2.2.2.1 ?_
    refine Go_aload_n (pc' := 17) dX8_push_16 rfl rfl rfl ?_
    refine Go_getIv (v := (iZ n)) (pc' := 20) dX8_push_17 rfl kf_RX8_29 (by decide) (by decide) rfl QP.1 QP.2.1 (hT_n) ?_
    refine Go_iload_n (pc' := 21) dX8_push_20 rfl rfl rfl ?_
    refine Go_iastoreZ (n := 40) (k := (n).toNat) (pc' := 22) dX8_push_21 rfl QP.2.2.2.2.2.2.1 QP.2.2.2.2.2.2.2 (by omega) (by omega) (by decide) ?_
    refine Go_aload_n (pc' := 23) dX8_push_22 rfl rfl rfl ?_
    refine Go_dup (pc' := 24) dX8_push_23 rfl rfl ?_
    refine Go_getIv (v := (iZ n)) (pc' := 27) dX8_push_24 rfl kf_RX8_29 (by decide) (by decide) rfl QP.1 QP.2.1 ((vi_skip (Or.inl (by omega))).trans (hT_n)) ?_
    refine Go_iconst (v := iZ 1) (pc' := 28) dX8_push_27 rfl (by decide) ?_
    refine Go_iaddZ (pc' := 29) dX8_push_28 rfl ?_
    refine Go_putI (pc' := 32) dX8_push_29 rfl kf_RX8_29 (by decide) (by decide) rfl QP.1 QP.2.1 (Or.inl rfl) rfl rfl ?_
    refine Go_return dX8_push_32 rfl ?_
    rw [pushC_t (by omega)] at hk
    rw [hT_step (by omega)]
    have e : n.toNat = st.length := by omega
    rw [e]
    exact hk _ _ (by rw [List.length_cons]; omega) (by rw [List.length_cons]; omega) hs.push
set_option maxRecDepth 20000 in
set_option maxHeartbeats 1000000 in
theorem s_pop {G : GC} {d mc ms : Nat} {h : HS} {K : Option Value → HS → Prop} {q : Nat} {st : List Int32} {u : Nat → Int32} {n : Int} (QP : QPr h q) (hn : n = (st.length : Int)) (hl : st.length ≤ 40) (hs : St u st) (hk : ∀ (u' : Nat → Int32) (n' : Int), n' = (st.tail.length : Int) → st.tail.length ≤ 40 → St u' st.tail → K (some (.int (st.headD 0))) (hT h (q + 2) q 4 u' n')) : Go G d mc ms M_X8_pop 0 [.ref q] [] (hT h (q + 2) q 4 u n) K := by
  refine Go_aload_n (pc' := 1) dX8_pop_0 rfl rfl rfl ?_
  refine Go_getIv (v := (iZ n)) (pc' := 4) dX8_pop_1 rfl kf_RX8_29 (by decide) (by decide) rfl QP.1 QP.2.1 (hT_n) ?_
  refine Go_if_gtY (tgt := 9) (pc' := 7) dX8_pop_4 (by decide) rfl (by first | exact ⟨i_lo _, i_hi _⟩ | omega) (fun c4 => ?_) (fun c4 => ?_)
  · refine Go_aload_n (pc' := 10) dX8_pop_9 rfl rfl rfl ?_
    refine Go_dup (pc' := 11) dX8_pop_10 rfl rfl ?_
    refine Go_getIv (v := (iZ n)) (pc' := 14) dX8_pop_11 rfl kf_RX8_29 (by decide) (by decide) rfl QP.1 QP.2.1 (hT_n) ?_
    refine Go_iconst (v := iZ 1) (pc' := 15) dX8_pop_14 rfl (by decide) ?_
    refine Go_isubZ (pc' := 16) dX8_pop_15 rfl ?_
    refine Go_putI (pc' := 19) dX8_pop_16 rfl kf_RX8_29 (by decide) (by decide) rfl QP.1 QP.2.1 (Or.inl rfl) rfl rfl ?_
    refine Go_aload_n (pc' := 20) dX8_pop_19 rfl rfl rfl ?_
    refine Go_getRs (pc' := 23) dX8_pop_20 rfl kf_RX8_15 (by decide) (by decide) rfl QP.1 QP.2.1 QP.2.2.2.1 ?_
    refine Go_aload_n (pc' := 24) dX8_pop_23 rfl rfl rfl ?_
    refine Go_getIv (v := (iZ (n - 1))) (pc' := 27) dX8_pop_24 rfl kf_RX8_29 (by decide) (by decide) rfl QP.1 QP.2.1 (vi_same) ?_
    refine Go_ialoadZ (n := 40) (k := ((n - 1)).toNat) (v := (iZ (vi (hT h (q + 2) q 4 u n) (q + 2) ((n - 1)).toNat).toInt)) (pc' := 28) dX8_pop_27 rfl QP.2.2.2.2.2.2.1 QP.2.2.2.2.2.2.2 (by omega) (by omega) (by decide) ((vi_skip (Or.inl (by omega))).trans (vi_eta _ _ _)) ?_
    refine Go_ireturn (ty := .int) dX8_pop_28 rfl rfl ?_
    obtain ⟨x, r, rfl⟩ : ∃ x r, st = x :: r := by
      cases st with
      | nil => simp at hn; omega
      | cons x r => exact ⟨x, r, rfl⟩
    rw [List.length_cons] at hn hl
    rw [hT_f]
    have e : (n - 1).toNat = r.length := by omega
    rw [e]
    have e2 : (u r.length) = x := hs.top
    refine (congrArg (fun z => K (some (.int z)) _) (show (_ : Int32) = x from ?_)).mpr (hk u (n - 1) (by show n - 1 = ((r.length : Nat) : Int); omega) (by show r.length ≤ 40; omega) hs.tl)
    rw [iZ_self, hT_r (by omega)]; exact hs.top
  · refine Go_iconst (v := iZ 0) (pc' := 8) dX8_pop_7 rfl (by decide) ?_
    refine Go_ireturn (ty := .int) dX8_pop_8 rfl rfl ?_
    obtain rfl : st = [] := by
      cases st with
      | nil => rfl
      | cons x r => rw [List.length_cons] at hn; omega
    exact hk u n hn hl hs
set_option maxRecDepth 20000 in
set_option maxHeartbeats 1000000 in
theorem s_join4 {G : GC} {d mc ms : Nat} {h : HS} {K : Option Value → HS → Prop} {a b : Int32} (hk : K (some (.int (bopV 17 a b))) h) : Go G d mc ms M_X8_join 0 [.int (iZ 4), .int a, .int b] [] h K := by
  obtain ⟨X, hX, rfl⟩ := i_eta a
  obtain ⟨Y, hY, rfl⟩ := i_eta b
  refine Go_iload_n (pc' := 1) dX8_join_0 rfl rfl rfl ?_
  refine Go_lookup (off := 83) (tgt := 84) dX8_join_1 (by decide) (by decide) (by decide) ?_
  refine Go_iload_n (pc' := 85) dX8_join_84 rfl rfl rfl ?_
  refine Go_iload_n (pc' := 86) dX8_join_85 rfl rfl rfl ?_
  refine Go_ior (pc' := 87) dX8_join_86 rfl ?_
  refine Go_ireturn (ty := .int) dX8_join_87 rfl rfl ?_
  exact hk
set_option maxRecDepth 20000 in
set_option maxHeartbeats 1000000 in
theorem s_join5 {G : GC} {d mc ms : Nat} {h : HS} {K : Option Value → HS → Prop} {a b : Int32} (hk : K (some (.int (bopV 16 a b))) h) : Go G d mc ms M_X8_join 0 [.int (iZ 5), .int a, .int b] [] h K := by
  obtain ⟨X, hX, rfl⟩ := i_eta a
  obtain ⟨Y, hY, rfl⟩ := i_eta b
  refine Go_iload_n (pc' := 1) dX8_join_0 rfl rfl rfl ?_
  refine Go_lookup (off := 87) (tgt := 88) dX8_join_1 (by decide) (by decide) (by decide) ?_
  refine Go_iload_n (pc' := 89) dX8_join_88 rfl rfl rfl ?_
  refine Go_iload_n (pc' := 90) dX8_join_89 rfl rfl rfl ?_
  refine Go_iand (pc' := 91) dX8_join_90 rfl ?_
  refine Go_ireturn (ty := .int) dX8_join_91 rfl rfl ?_
  exact hk
set_option maxRecDepth 20000 in
set_option maxHeartbeats 1000000 in
theorem s_join142 {G : GC} {d mc ms : Nat} {h : HS} {K : Option Value → HS → Prop} {a b : Int32} (hk : K (some (.int (bopV 10 a b))) h) : Go G d mc ms M_X8_join 0 [.int (iZ 142), .int a, .int b] [] h K := by
  obtain ⟨X, hX, rfl⟩ := i_eta a
  obtain ⟨Y, hY, rfl⟩ := i_eta b
  refine Go_iload_n (pc' := 1) dX8_join_0 rfl rfl rfl ?_
  refine Go_lookup (off := 132) (tgt := 133) dX8_join_1 (by decide) (by decide) (by decide) ?_
  refine Go_iload_n (pc' := 134) dX8_join_133 rfl rfl rfl ?_
  refine Go_iload_n (pc' := 135) dX8_join_134 rfl rfl rfl ?_
  refine Go_imulZ (pc' := 136) dX8_join_135 rfl ?_
  refine Go_ireturn (ty := .int) dX8_join_136 rfl rfl ?_
  have hk : K (some (.int (iZ X * iZ Y))) h := hk
  rw [iZ_mul] at hk; exact hk
set_option maxRecDepth 20000 in
set_option maxHeartbeats 1000000 in
theorem s_join143 {G : GC} {d mc ms : Nat} {h : HS} {K : Option Value → HS → Prop} {a b : Int32} (hk : K (some (.int (bopV 8 a b))) h) : Go G d mc ms M_X8_join 0 [.int (iZ 143), .int a, .int b] [] h K := by
  obtain ⟨X, hX, rfl⟩ := i_eta a
  obtain ⟨Y, hY, rfl⟩ := i_eta b
  refine Go_iload_n (pc' := 1) dX8_join_0 rfl rfl rfl ?_
  refine Go_lookup (off := 124) (tgt := 125) dX8_join_1 (by decide) (by decide) (by decide) ?_
  refine Go_iload_n (pc' := 126) dX8_join_125 rfl rfl rfl ?_
  refine Go_iload_n (pc' := 127) dX8_join_126 rfl rfl rfl ?_
  refine Go_iaddZ (pc' := 128) dX8_join_127 rfl ?_
  refine Go_ireturn (ty := .int) dX8_join_128 rfl rfl ?_
  have hk : K (some (.int (iZ X + iZ Y))) h := hk
  rw [iZ_add] at hk; exact hk
set_option maxRecDepth 20000 in
set_option maxHeartbeats 1000000 in
theorem s_join145 {G : GC} {d mc ms : Nat} {h : HS} {K : Option Value → HS → Prop} {a b : Int32} (hk : K (some (.int (bopV 9 a b))) h) : Go G d mc ms M_X8_join 0 [.int (iZ 145), .int a, .int b] [] h K := by
  obtain ⟨X, hX, rfl⟩ := i_eta a
  obtain ⟨Y, hY, rfl⟩ := i_eta b
  refine Go_iload_n (pc' := 1) dX8_join_0 rfl rfl rfl ?_
  refine Go_lookup (off := 128) (tgt := 129) dX8_join_1 (by decide) (by decide) (by decide) ?_
  refine Go_iload_n (pc' := 130) dX8_join_129 rfl rfl rfl ?_
  refine Go_iload_n (pc' := 131) dX8_join_130 rfl rfl rfl ?_
  refine Go_isubZ (pc' := 132) dX8_join_131 rfl ?_
  refine Go_ireturn (ty := .int) dX8_join_132 rfl rfl ?_
  have hk : K (some (.int (iZ X - iZ Y))) h := hk
  rw [iZ_sub] at hk; exact hk
set_option maxRecDepth 20000 in
set_option maxHeartbeats 1000000 in
theorem s_join147 {G : GC} {d mc ms : Nat} {h : HS} {K : Option Value → HS → Prop} {a b : Int32} (hk : K (some (.int (bopV 11 a b))) h) : Go G d mc ms M_X8_join 0 [.int (iZ 147), .int a, .int b] [] h K := by
  obtain ⟨X, hX, rfl⟩ := i_eta a
  obtain ⟨Y, hY, rfl⟩ := i_eta b
  refine Go_iload_n (pc' := 1) dX8_join_0 rfl rfl rfl ?_
  refine Go_lookup (off := 136) (tgt := 137) dX8_join_1 (by decide) (by decide) (by decide) ?_
  refine Go_iload_n (pc' := 138) dX8_join_137 rfl rfl rfl ?_
  refine Go_if_neY (tgt := 145) (pc' := 141) dX8_join_138 (by decide) rfl (by first | exact ⟨i_lo _, i_hi _⟩ | omega) (fun c138 => ?_) (fun c138 => ?_)
  · refine Go_iload_n (pc' := 146) dX8_join_145 rfl rfl rfl ?_
    refine Go_iload_n (pc' := 147) dX8_join_146 rfl rfl rfl ?_
    refine Go_idiv (pc' := 148) dX8_join_147 rfl (iZ_ne0 c138 hY) ?_
    refine Go_ireturn (ty := .int) dX8_join_148 rfl rfl ?_
    have hk : K (some (.int (if _ then 0 else _))) h := hk
    rw [if_neg (iZ_ne0 c138 hY)] at hk; exact hk
  · refine Go_iconst (v := iZ 0) (pc' := 142) dX8_join_141 rfl (by decide) ?_
    refine Go_goto (tgt := 148) dX8_join_142 (by decide) ?_
    refine Go_ireturn (ty := .int) dX8_join_148 rfl rfl ?_
    have hk : K (some (.int (if _ then 0 else _))) h := hk
    rw [if_pos (show iZ Y = 0 by rw [c138]; decide)] at hk; exact hk
set_option maxRecDepth 20000 in
set_option maxHeartbeats 1000000 in
theorem s_join160 {G : GC} {d mc ms : Nat} {h : HS} {K : Option Value → HS → Prop} {a b : Int32} (hk : K (some (.int (bopV 12 a b))) h) : Go G d mc ms M_X8_join 0 [.int (iZ 160), .int a, .int b] [] h K := by
  obtain ⟨X, hX, rfl⟩ := i_eta a
  obtain ⟨Y, hY, rfl⟩ := i_eta b
  refine Go_iload_n (pc' := 1) dX8_join_0 rfl rfl rfl ?_
  refine Go_lookup (off := 91) (tgt := 92) dX8_join_1 (by decide) (by decide) (by decide) ?_
  refine Go_iload_n (pc' := 93) dX8_join_92 rfl rfl rfl ?_
  refine Go_iload_n (pc' := 94) dX8_join_93 rfl rfl rfl ?_
  refine Go_icmp_geY (tgt := 101) (pc' := 97) dX8_join_94 (by decide) rfl (by first | exact ⟨i_lo _, i_hi _⟩ | omega) (by first | exact ⟨i_lo _, i_hi _⟩ | omega) (fun c94 => ?_) (fun c94 => ?_)
  · refine Go_iconst (v := iZ 0) (pc' := 102) dX8_join_101 rfl (by decide) ?_
    refine Go_ireturn (ty := .int) dX8_join_102 rfl rfl ?_
    have hk : K (some (.int (if _ then 1 else 0))) h := hk
    rw [iZ_t hX, iZ_t hY, if_neg (by omega)] at hk; exact hk
  · refine Go_iconst (v := iZ 1) (pc' := 98) dX8_join_97 rfl (by decide) ?_
    refine Go_goto (tgt := 102) dX8_join_98 (by decide) ?_
    refine Go_ireturn (ty := .int) dX8_join_102 rfl rfl ?_
    have hk : K (some (.int (if _ then 1 else 0))) h := hk
    rw [iZ_t hX, iZ_t hY, if_pos (by omega)] at hk; exact hk
set_option maxRecDepth 20000 in
set_option maxHeartbeats 1000000 in
theorem s_join161 {G : GC} {d mc ms : Nat} {h : HS} {K : Option Value → HS → Prop} {a b : Int32} (hk : K (some (.int (bopV 13 a b))) h) : Go G d mc ms M_X8_join 0 [.int (iZ 161), .int a, .int b] [] h K := by
  obtain ⟨X, hX, rfl⟩ := i_eta a
  obtain ⟨Y, hY, rfl⟩ := i_eta b
  refine Go_iload_n (pc' := 1) dX8_join_0 rfl rfl rfl ?_
  refine Go_lookup (off := 102) (tgt := 103) dX8_join_1 (by decide) (by decide) (by decide) ?_
  refine Go_iload_n (pc' := 104) dX8_join_103 rfl rfl rfl ?_
  refine Go_iload_n (pc' := 105) dX8_join_104 rfl rfl rfl ?_
  refine Go_icmp_neY (tgt := 112) (pc' := 108) dX8_join_105 (by decide) rfl (by first | exact ⟨i_lo _, i_hi _⟩ | omega) (by first | exact ⟨i_lo _, i_hi _⟩ | omega) (fun c105 => ?_) (fun c105 => ?_)
  · refine Go_iconst (v := iZ 0) (pc' := 113) dX8_join_112 rfl (by decide) ?_
    refine Go_ireturn (ty := .int) dX8_join_113 rfl rfl ?_
    have hk : K (some (.int (if _ then 1 else 0))) h := hk
    rw [iZ_t hX, iZ_t hY, if_neg (by omega)] at hk; exact hk
  · refine Go_iconst (v := iZ 1) (pc' := 109) dX8_join_108 rfl (by decide) ?_
    refine Go_goto (tgt := 113) dX8_join_109 (by decide) ?_
    refine Go_ireturn (ty := .int) dX8_join_113 rfl rfl ?_
    have hk : K (some (.int (if _ then 1 else 0))) h := hk
    rw [iZ_t hX, iZ_t hY, if_pos (by omega)] at hk; exact hk
set_option maxRecDepth 20000 in
set_option maxHeartbeats 1000000 in
theorem s_join162 {G : GC} {d mc ms : Nat} {h : HS} {K : Option Value → HS → Prop} {a b : Int32} (hk : K (some (.int (bopV 14 a b))) h) : Go G d mc ms M_X8_join 0 [.int (iZ 162), .int a, .int b] [] h K := by
  obtain ⟨X, hX, rfl⟩ := i_eta a
  obtain ⟨Y, hY, rfl⟩ := i_eta b
  refine Go_iload_n (pc' := 1) dX8_join_0 rfl rfl rfl ?_
  refine Go_lookup (off := 113) (tgt := 114) dX8_join_1 (by decide) (by decide) (by decide) ?_
  refine Go_iload_n (pc' := 115) dX8_join_114 rfl rfl rfl ?_
  refine Go_iload_n (pc' := 116) dX8_join_115 rfl rfl rfl ?_
  refine Go_icmp_leY (tgt := 123) (pc' := 119) dX8_join_116 (by decide) rfl (by first | exact ⟨i_lo _, i_hi _⟩ | omega) (by first | exact ⟨i_lo _, i_hi _⟩ | omega) (fun c116 => ?_) (fun c116 => ?_)
  · refine Go_iconst (v := iZ 0) (pc' := 124) dX8_join_123 rfl (by decide) ?_
    refine Go_ireturn (ty := .int) dX8_join_124 rfl rfl ?_
    have hk : K (some (.int (if _ then 1 else 0))) h := hk
    rw [iZ_t hX, iZ_t hY, if_neg (by omega)] at hk; exact hk
  · refine Go_iconst (v := iZ 1) (pc' := 120) dX8_join_119 rfl (by decide) ?_
    refine Go_goto (tgt := 124) dX8_join_120 (by decide) ?_
    refine Go_ireturn (ty := .int) dX8_join_124 rfl rfl ?_
    have hk : K (some (.int (if _ then 1 else 0))) h := hk
    rw [iZ_t hX, iZ_t hY, if_pos (by omega)] at hk; exact hk
/-- one code of the class on its stack -/
def cst (F : Nat → Int32) (c : Int) (st : List Int32) : List Int32 :=
  if c < 10000 then pushC st (iZ c)
  else if c = 10006 then pushC st.tail (iZ 1 - st.headD 0)
  else if c ≤ 10013 ∧ 10007 ≤ c then pushC st (F (c - 10006).toNat)
  else pushC st.tail.tail (bopV (if c = 10004 then 17 else if c = 10005 then 16 else if c = 10142 then 10 else if c = 10143 then 8 else if c = 10145 then 9 else if c = 10147 then 11 else if c = 10160 then 12 else if c = 10161 then 13 else 14) (st.tail.headD 0) (st.headD 0))
def jx (c : Nat → Int) (F : Nat → Int32) : Nat → Nat → List Int32 → Int
  | 0, _, _ => 0
  | m + 1, i, st => if 20000 ≤ c i then (if st.headD 0 = 0 then jx c F m (i + 1) st.tail else c i - 20000) else jx c F m (i + 1) (cst F (c i) st)
theorem jx_v0 {c : Nat → Int} {F : Nat → Int32} {m i : Nat} {st : List Int32} (h : 20000 ≤ c i) (h0 : st.headD 0 = 0) : jx c F (m + 1) i st = jx c F m (i + 1) st.tail := by show (if _ then _ else _) = _; rw [if_pos h, if_pos h0]
theorem jx_v1 {c : Nat → Int} {F : Nat → Int32} {m i : Nat} {st : List Int32} (h : 20000 ≤ c i) (h0 : ¬ st.headD 0 = 0) : jx c F (m + 1) i st = c i - 20000 := by show (if _ then _ else _) = _; rw [if_pos h, if_neg h0]
theorem jx_c {c : Nat → Int} {F : Nat → Int32} {m i : Nat} {st : List Int32} (h : ¬ 20000 ≤ c i) : jx c F (m + 1) i st = jx c F m (i + 1) (cst F (c i) st) := by show (if _ then _ else _) = _; rw [if_neg h]
/-- codes that a program may hold; with its stack: no division by 0 -/
def cod (c : Int) : Prop := (0 ≤ c ∧ c < 10000) ∨ (10006 ≤ c ∧ c ≤ 10013) ∨ c = 10004 ∨ c = 10005 ∨ c = 10142 ∨ c = 10143 ∨ c = 10145 ∨ c = 10147 ∨ c = 10160 ∨ c = 10161 ∨ c = 10162 ∨ (20001 ≤ c ∧ c ≤ 20003)

set_option maxRecDepth 20000 in
set_option maxHeartbeats 1000000 in
theorem s_operF {G : GC} {d mc ms : Nat} {h : HS} {K : Option Value → HS → Prop} {q : Nat} {st : List Int32} {u : Nat → Int32} {n : Int} (QP : QPr h q) (hn : n = (st.length : Int)) (hl : st.length ≤ 40) (hs : St u st) (S : Shp h) {F : Nat → Int32} (hF : ∀ k, 1 ≤ k → k ≤ 7 → vi h 70 (k - 1) = F k) (hq : q = 74 ∨ q = 77) {c : Int} (hc : 10007 ≤ c ∧ c ≤ 10013) (hk : ∀ (u' : Nat → Int32) (n' : Int), n' = ((cst F c st).length : Int) → (cst F c st).length ≤ 40 → St u' (cst F c st) → K none (hT h (q + 2) q 4 u' n')) : Go G (d + 1) mc ms M_X8_operate 0 [.ref q, .int (iZ (c - 10000)), .ref 69, un, un] [] (hT h (q + 2) q 4 u n) K := by
  have hF := hF (c - 10006).toNat (by omega) (by omega)
  rw [show (c - 10006).toNat - 1 = ((c - 10000) - 7).toNat by omega] at hF
  refine Go_iload_n (pc' := 1) dX8_operate_0 rfl rfl rfl ?_
  refine Go_bipush (v := iZ 7) (pc' := 3) dX8_operate_1 rfl (by decide) ?_
  refine Go_icmp_ltY (tgt := 27) (pc' := 6) dX8_operate_3 (by decide) rfl (by first | exact ⟨i_lo _, i_hi _⟩ | omega) (by first | exact ⟨i_lo _, i_hi _⟩ | omega) (fun c3 => by exfalso; omega) (fun c3 => ?_)
  refine Go_iload_n (pc' := 7) dX8_operate_6 rfl rfl rfl ?_
  refine Go_bipush (v := iZ 13) (pc' := 9) dX8_operate_7 rfl (by decide) ?_
  refine Go_icmp_gtY (tgt := 27) (pc' := 12) dX8_operate_9 (by decide) rfl (by first | exact ⟨i_lo _, i_hi _⟩ | omega) (by first | exact ⟨i_lo _, i_hi _⟩ | omega) (fun c9 => by exfalso; omega) (fun c9 => ?_)
  refine Go_aload_n (pc' := 13) dX8_operate_12 rfl rfl rfl ?_
  refine Go_aload_n (pc' := 14) dX8_operate_13 rfl rfl rfl ?_
  refine Go_iload_n (pc' := 15) dX8_operate_14 rfl rfl rfl ?_
  refine Go_bipush (v := iZ 7) (pc' := 17) dX8_operate_15 rfl (by decide) ?_
  refine Go_isubZ (pc' := 18) dX8_operate_17 rfl ?_
  refine Go_callV_i (pc' := 21) (As := [.int _]) (st := [.ref _]) dX8_operate_18 rfl ok_X0_fact km_RX8_45 (S.o 69 rfl rfl rfl) (S.b 69 rfl rfl) ⟨_, _, rfl⟩ rfl (Nat.le_of_ble_eq_true rfl) rfl rfl rfl (Nat.le_of_ble_eq_true rfl) (Nat.lt_succ_self _) ?_
  refine Go_iload_n (pc' := 1) dX0_fact_0 rfl rfl rfl ?_
  refine Go_if_ltY (tgt := 22) (pc' := 4) dX0_fact_1 (by decide) rfl (by first | exact ⟨i_lo _, i_hi _⟩ | omega) (fun f1 => by exfalso; omega) (fun f1 => ?_)
  refine Go_iload_n (pc' := 5) dX0_fact_4 rfl rfl rfl ?_
  refine Go_aload_n (pc' := 6) dX0_fact_5 rfl rfl rfl ?_
  refine Go_getRs (pc' := 9) dX0_fact_6 rfl kf_RX0_9 (by decide) (by decide) rfl (S.b 69 rfl rfl) (S.o 69 rfl rfl rfl) (S.r 69 0 rfl rfl rfl) ?_
  refine Go_alenZ (n := 7) (pc' := 10) dX0_fact_9 rfl (S.b 70 rfl rfl) (S.k 70 rfl rfl rfl) (Or.inl rfl) ?_
  refine Go_icmp_geY (tgt := 22) (pc' := 13) dX0_fact_10 (by decide) rfl (by first | exact ⟨i_lo _, i_hi _⟩ | omega) (by first | exact ⟨i_lo _, i_hi _⟩ | omega) (fun f10 => by exfalso; omega) (fun f10 => ?_)
  refine Go_aload_n (pc' := 14) dX0_fact_13 rfl rfl rfl ?_
  refine Go_getRs (pc' := 17) dX0_fact_14 rfl kf_RX0_9 (by decide) (by decide) rfl (S.b 69 rfl rfl) (S.o 69 rfl rfl rfl) (S.r 69 0 rfl rfl rfl) ?_
  refine Go_iload_n (pc' := 18) dX0_fact_17 rfl rfl rfl ?_
  refine Go_ialoadZ (n := 7) (k := (((c - 10000) - 7)).toNat) (v := (iZ (F (c - 10006).toNat).toInt)) (pc' := 19) dX0_fact_18 rfl (S.b 70 rfl rfl) (S.k 70 rfl rfl rfl) (by omega) (by omega) (by decide) ((((hT_o (by omega) (by omega)).trans hF).trans (iZ_self _).symm)) ?_
  refine Go_goto (tgt := 23) dX0_fact_19 (by decide) ?_
  refine Go_ireturn (ty := .int) dX0_fact_23 rfl rfl ?_
  refine ⟨_, rfl, ?_⟩
  refine Go_callV_v (pc' := 24) (As := [.int _]) (st := []) dX8_operate_21 rfl ok_X8_push km_RX8_32 QP.2.1 QP.1 ⟨_, _, rfl⟩ rfl (Nat.le_of_ble_eq_true rfl) rfl rfl rfl (Nat.le_of_ble_eq_true rfl) (Nat.lt_succ_self _) ?_
  refine s_push QP hn hl hs (fun u9 n9 w1 w2 w3 => ?_)
  refine ⟨rfl, ?_⟩
  refine Go_goto (tgt := 68) dX8_operate_24 (by decide) ?_
  refine Go_return dX8_operate_68 rfl ?_
  rw [iZ_self] at w1 w2 w3
  have w4 := hk u9 n9
  rw [show cst F c st = pushC st (F (c - 10006).toNat) from by unfold cst; rw [if_neg (by omega), if_neg (by omega), if_pos (by omega)]] at w4
  exact w4 w1 w2 w3
set_option maxRecDepth 20000 in
set_option maxHeartbeats 1000000 in
theorem s_operN {G : GC} {d mc ms : Nat} {h : HS} {K : Option Value → HS → Prop} {q : Nat} {st : List Int32} {u : Nat → Int32} {n : Int} (QP : QPr h q) (hn : n = (st.length : Int)) (hl : st.length ≤ 40) (hs : St u st) (S : Shp h) {F : Nat → Int32} (hF : ∀ k, 1 ≤ k → k ≤ 7 → vi h 70 (k - 1) = F k) (hq : q = 74 ∨ q = 77) (hk : ∀ (u' : Nat → Int32) (n' : Int), n' = ((cst F 10006 st).length : Int) → (cst F 10006 st).length ≤ 40 → St u' (cst F 10006 st) → K none (hT h (q + 2) q 4 u' n')) : Go G (d + 1) mc ms M_X8_operate 0 [.ref q, .int (iZ 6), .ref 69, un, un] [] (hT h (q + 2) q 4 u n) K := by
  refine Go_iload_n (pc' := 1) dX8_operate_0 rfl rfl rfl ?_
  refine Go_bipush (v := iZ 7) (pc' := 3) dX8_operate_1 rfl (by decide) ?_
  refine Go_icmp_ltY (tgt := 27) (pc' := 6) dX8_operate_3 (by decide) rfl (by first | exact ⟨i_lo _, i_hi _⟩ | omega) (by first | exact ⟨i_lo _, i_hi _⟩ | omega) (fun c3 => ?_) (fun c3 => by exfalso; omega)
  refine Go_iload_n (pc' := 28) dX8_operate_27 rfl rfl rfl ?_
  refine Go_bipush (v := iZ 6) (pc' := 30) dX8_operate_28 rfl (by decide) ?_
  refine Go_icmp_neY (tgt := 46) (pc' := 33) dX8_operate_30 (by decide) rfl (by first | exact ⟨i_lo _, i_hi _⟩ | omega) (by first | exact ⟨i_lo _, i_hi _⟩ | omega) (fun c30 => by exfalso; omega) (fun c30 => ?_)
  refine Go_aload_n (pc' := 34) dX8_operate_33 rfl rfl rfl ?_
  refine Go_iconst (v := iZ 1) (pc' := 35) dX8_operate_34 rfl (by decide) ?_
  refine Go_aload_n (pc' := 36) dX8_operate_35 rfl rfl rfl ?_
  refine Go_callV_i (pc' := 39) (As := []) (st := [.int _, .ref _]) dX8_operate_36 rfl ok_X8_pop km_RX8_39 QP.2.1 QP.1 ⟨_, _, rfl⟩ rfl (Nat.le_of_ble_eq_true rfl) rfl rfl rfl (Nat.le_of_ble_eq_true rfl) (Nat.lt_succ_self _) ?_
  refine s_pop QP hn hl hs (fun u1 n1 e1 l1 s1 => ?_)
  refine ⟨_, rfl, ?_⟩
  refine Go_isub (pc' := 40) dX8_operate_39 rfl ?_
  refine Go_callV_v (pc' := 43) (As := [.int _]) (st := []) dX8_operate_40 rfl ok_X8_push km_RX8_32 QP.2.1 QP.1 ⟨_, _, rfl⟩ rfl (Nat.le_of_ble_eq_true rfl) rfl rfl rfl (Nat.le_of_ble_eq_true rfl) (Nat.lt_succ_self _) ?_
  refine s_push QP e1 l1 s1 (fun u9 n9 w1 w2 w3 => ?_)
  refine ⟨rfl, ?_⟩
  refine Go_goto (tgt := 68) dX8_operate_43 (by decide) ?_
  refine Go_return dX8_operate_68 rfl ?_
  have w4 := hk u9 n9
  rw [show cst F 10006 st = pushC st.tail (iZ 1 - st.headD 0) from rfl] at w4
  exact w4 w1 w2 w3
set_option maxRecDepth 20000 in
set_option maxHeartbeats 1000000 in
theorem s_oper4 {G : GC} {d mc ms : Nat} {h : HS} {K : Option Value → HS → Prop} {q : Nat} {st : List Int32} {u : Nat → Int32} {n : Int} (QP : QPr h q) (hn : n = (st.length : Int)) (hl : st.length ≤ 40) (hs : St u st) (S : Shp h) {F : Nat → Int32} (hF : ∀ k, 1 ≤ k → k ≤ 7 → vi h 70 (k - 1) = F k) (hq : q = 74 ∨ q = 77) (hk : ∀ (u' : Nat → Int32) (n' : Int), n' = ((cst F 10004 st).length : Int) → (cst F 10004 st).length ≤ 40 → St u' (cst F 10004 st) → K none (hT h (q + 2) q 4 u' n')) : Go G (d + 1) mc ms M_X8_operate 0 [.ref q, .int (iZ 4), .ref 69, un, un] [] (hT h (q + 2) q 4 u n) K := by
  refine Go_iload_n (pc' := 1) dX8_operate_0 rfl rfl rfl ?_
  refine Go_bipush (v := iZ 7) (pc' := 3) dX8_operate_1 rfl (by decide) ?_
  refine Go_icmp_ltY (tgt := 27) (pc' := 6) dX8_operate_3 (by decide) rfl (by first | exact ⟨i_lo _, i_hi _⟩ | omega) (by first | exact ⟨i_lo _, i_hi _⟩ | omega) (fun c3 => ?_) (fun c3 => by exfalso; omega)
  refine Go_iload_n (pc' := 28) dX8_operate_27 rfl rfl rfl ?_
  refine Go_bipush (v := iZ 6) (pc' := 30) dX8_operate_28 rfl (by decide) ?_
  refine Go_icmp_neY (tgt := 46) (pc' := 33) dX8_operate_30 (by decide) rfl (by first | exact ⟨i_lo _, i_hi _⟩ | omega) (by first | exact ⟨i_lo _, i_hi _⟩ | omega) (fun c30 => ?_) (fun c30 => by exfalso; omega)
  refine Go_aload_n (pc' := 47) dX8_operate_46 rfl rfl rfl ?_
  refine Go_callV_i (pc' := 50) (As := []) (st := []) dX8_operate_47 rfl ok_X8_pop km_RX8_39 QP.2.1 QP.1 ⟨_, _, rfl⟩ rfl (Nat.le_of_ble_eq_true rfl) rfl rfl rfl (Nat.le_of_ble_eq_true rfl) (Nat.lt_succ_self _) ?_
  refine s_pop QP hn hl hs (fun u1 n1 e1 l1 s1 => ?_)
  refine ⟨_, rfl, ?_⟩
  refine Go_istore_n (pc' := 51) (lv' := [.ref _, .int _, .ref _, .int _, un]) dX8_operate_50 rfl rfl (Nat.le_of_ble_eq_true rfl) rfl rfl ?_
  refine Go_aload_n (pc' := 52) dX8_operate_51 rfl rfl rfl ?_
  refine Go_callV_i (pc' := 55) (As := []) (st := []) dX8_operate_52 rfl ok_X8_pop km_RX8_39 QP.2.1 QP.1 ⟨_, _, rfl⟩ rfl (Nat.le_of_ble_eq_true rfl) rfl rfl rfl (Nat.le_of_ble_eq_true rfl) (Nat.lt_succ_self _) ?_
  refine s_pop QP e1 l1 s1 (fun u2 n2 e2 l2 s2 => ?_)
  refine ⟨_, rfl, ?_⟩
  refine Go_istore (pc' := 57) (lv' := [.ref _, .int _, .ref _, .int _, .int _]) dX8_operate_55 rfl (Nat.le_of_ble_eq_true rfl) rfl rfl ?_
  refine Go_aload_n (pc' := 58) dX8_operate_57 rfl rfl rfl ?_
  refine Go_iload_n (pc' := 59) dX8_operate_58 rfl rfl rfl ?_
  refine Go_iload (pc' := 61) dX8_operate_59 rfl rfl ?_
  refine Go_iload_n (pc' := 62) dX8_operate_61 rfl rfl rfl ?_
  refine Go_callS_i (pc' := 65) (As := [.int _, .int _, .int _]) (st := [.ref _]) dX8_operate_62 rfl ok_X8_join km_RX8_51 rfl (Nat.le_of_ble_eq_true rfl) rfl rfl rfl (Nat.le_of_ble_eq_true rfl) (Nat.lt_succ_self _) ?_
  refine s_join4 ?_
  refine ⟨_, rfl, ?_⟩
  refine Go_callV_v (pc' := 68) (As := [.int _]) (st := []) dX8_operate_65 rfl ok_X8_push km_RX8_32 QP.2.1 QP.1 ⟨_, _, rfl⟩ rfl (Nat.le_of_ble_eq_true rfl) rfl rfl rfl (Nat.le_of_ble_eq_true rfl) (Nat.lt_succ_self _) ?_
  refine s_push QP e2 l2 s2 (fun u9 n9 w1 w2 w3 => ?_)
  refine ⟨rfl, ?_⟩
  refine Go_return dX8_operate_68 rfl ?_
  have w4 := hk u9 n9
  rw [show cst F 10004 st = pushC st.tail.tail (bopV 17 (st.tail.headD 0) (st.headD 0)) from rfl] at w4
  exact w4 w1 w2 w3
set_option maxRecDepth 20000 in
set_option maxHeartbeats 1000000 in
theorem s_oper5 {G : GC} {d mc ms : Nat} {h : HS} {K : Option Value → HS → Prop} {q : Nat} {st : List Int32} {u : Nat → Int32} {n : Int} (QP : QPr h q) (hn : n = (st.length : Int)) (hl : st.length ≤ 40) (hs : St u st) (S : Shp h) {F : Nat → Int32} (hF : ∀ k, 1 ≤ k → k ≤ 7 → vi h 70 (k - 1) = F k) (hq : q = 74 ∨ q = 77) (hk : ∀ (u' : Nat → Int32) (n' : Int), n' = ((cst F 10005 st).length : Int) → (cst F 10005 st).length ≤ 40 → St u' (cst F 10005 st) → K none (hT h (q + 2) q 4 u' n')) : Go G (d + 1) mc ms M_X8_operate 0 [.ref q, .int (iZ 5), .ref 69, un, un] [] (hT h (q + 2) q 4 u n) K := by
  refine Go_iload_n (pc' := 1) dX8_operate_0 rfl rfl rfl ?_
  refine Go_bipush (v := iZ 7) (pc' := 3) dX8_operate_1 rfl (by decide) ?_
  refine Go_icmp_ltY (tgt := 27) (pc' := 6) dX8_operate_3 (by decide) rfl (by first | exact ⟨i_lo _, i_hi _⟩ | omega) (by first | exact ⟨i_lo _, i_hi _⟩ | omega) (fun c3 => ?_) (fun c3 => by exfalso; omega)
  refine Go_iload_n (pc' := 28) dX8_operate_27 rfl rfl rfl ?_
  refine Go_bipush (v := iZ 6) (pc' := 30) dX8_operate_28 rfl (by decide) ?_
  refine Go_icmp_neY (tgt := 46) (pc' := 33) dX8_operate_30 (by decide) rfl (by first | exact ⟨i_lo _, i_hi _⟩ | omega) (by first | exact ⟨i_lo _, i_hi _⟩ | omega) (fun c30 => ?_) (fun c30 => by exfalso; omega)
  refine Go_aload_n (pc' := 47) dX8_operate_46 rfl rfl rfl ?_
  refine Go_callV_i (pc' := 50) (As := []) (st := []) dX8_operate_47 rfl ok_X8_pop km_RX8_39 QP.2.1 QP.1 ⟨_, _, rfl⟩ rfl (Nat.le_of_ble_eq_true rfl) rfl rfl rfl (Nat.le_of_ble_eq_true rfl) (Nat.lt_succ_self _) ?_
  refine s_pop QP hn hl hs (fun u1 n1 e1 l1 s1 => ?_)
  refine ⟨_, rfl, ?_⟩
  refine Go_istore_n (pc' := 51) (lv' := [.ref _, .int _, .ref _, .int _, un]) dX8_operate_50 rfl rfl (Nat.le_of_ble_eq_true rfl) rfl rfl ?_
  refine Go_aload_n (pc' := 52) dX8_operate_51 rfl rfl rfl ?_
  refine Go_callV_i (pc' := 55) (As := []) (st := []) dX8_operate_52 rfl ok_X8_pop km_RX8_39 QP.2.1 QP.1 ⟨_, _, rfl⟩ rfl (Nat.le_of_ble_eq_true rfl) rfl rfl rfl (Nat.le_of_ble_eq_true rfl) (Nat.lt_succ_self _) ?_
  refine s_pop QP e1 l1 s1 (fun u2 n2 e2 l2 s2 => ?_)
  refine ⟨_, rfl, ?_⟩
  refine Go_istore (pc' := 57) (lv' := [.ref _, .int _, .ref _, .int _, .int _]) dX8_operate_55 rfl (Nat.le_of_ble_eq_true rfl) rfl rfl ?_
  refine Go_aload_n (pc' := 58) dX8_operate_57 rfl rfl rfl ?_
  refine Go_iload_n (pc' := 59) dX8_operate_58 rfl rfl rfl ?_
  refine Go_iload (pc' := 61) dX8_operate_59 rfl rfl ?_
  refine Go_iload_n (pc' := 62) dX8_operate_61 rfl rfl rfl ?_
  refine Go_callS_i (pc' := 65) (As := [.int _, .int _, .int _]) (st := [.ref _]) dX8_operate_62 rfl ok_X8_join km_RX8_51 rfl (Nat.le_of_ble_eq_true rfl) rfl rfl rfl (Nat.le_of_ble_eq_true rfl) (Nat.lt_succ_self _) ?_
  refine s_join5 ?_
  refine ⟨_, rfl, ?_⟩
  refine Go_callV_v (pc' := 68) (As := [.int _]) (st := []) dX8_operate_65 rfl ok_X8_push km_RX8_32 QP.2.1 QP.1 ⟨_, _, rfl⟩ rfl (Nat.le_of_ble_eq_true rfl) rfl rfl rfl (Nat.le_of_ble_eq_true rfl) (Nat.lt_succ_self _) ?_
  refine s_push QP e2 l2 s2 (fun u9 n9 w1 w2 w3 => ?_)
  refine ⟨rfl, ?_⟩
  refine Go_return dX8_operate_68 rfl ?_
  have w4 := hk u9 n9
  rw [show cst F 10005 st = pushC st.tail.tail (bopV 16 (st.tail.headD 0) (st.headD 0)) from rfl] at w4
  exact w4 w1 w2 w3
set_option maxRecDepth 20000 in
set_option maxHeartbeats 1000000 in
theorem s_oper142 {G : GC} {d mc ms : Nat} {h : HS} {K : Option Value → HS → Prop} {q : Nat} {st : List Int32} {u : Nat → Int32} {n : Int} (QP : QPr h q) (hn : n = (st.length : Int)) (hl : st.length ≤ 40) (hs : St u st) (S : Shp h) {F : Nat → Int32} (hF : ∀ k, 1 ≤ k → k ≤ 7 → vi h 70 (k - 1) = F k) (hq : q = 74 ∨ q = 77) (hk : ∀ (u' : Nat → Int32) (n' : Int), n' = ((cst F 10142 st).length : Int) → (cst F 10142 st).length ≤ 40 → St u' (cst F 10142 st) → K none (hT h (q + 2) q 4 u' n')) : Go G (d + 1) mc ms M_X8_operate 0 [.ref q, .int (iZ 142), .ref 69, un, un] [] (hT h (q + 2) q 4 u n) K := by
  refine Go_iload_n (pc' := 1) dX8_operate_0 rfl rfl rfl ?_
  refine Go_bipush (v := iZ 7) (pc' := 3) dX8_operate_1 rfl (by decide) ?_
  refine Go_icmp_ltY (tgt := 27) (pc' := 6) dX8_operate_3 (by decide) rfl (by first | exact ⟨i_lo _, i_hi _⟩ | omega) (by first | exact ⟨i_lo _, i_hi _⟩ | omega) (fun c3 => by exfalso; omega) (fun c3 => ?_)
  refine Go_iload_n (pc' := 7) dX8_operate_6 rfl rfl rfl ?_
  refine Go_bipush (v := iZ 13) (pc' := 9) dX8_operate_7 rfl (by decide) ?_
  refine Go_icmp_gtY (tgt := 27) (pc' := 12) dX8_operate_9 (by decide) rfl (by first | exact ⟨i_lo _, i_hi _⟩ | omega) (by first | exact ⟨i_lo _, i_hi _⟩ | omega) (fun c9 => ?_) (fun c9 => by exfalso; omega)
  refine Go_iload_n (pc' := 28) dX8_operate_27 rfl rfl rfl ?_
  refine Go_bipush (v := iZ 6) (pc' := 30) dX8_operate_28 rfl (by decide) ?_
  refine Go_icmp_neY (tgt := 46) (pc' := 33) dX8_operate_30 (by decide) rfl (by first | exact ⟨i_lo _, i_hi _⟩ | omega) (by first | exact ⟨i_lo _, i_hi _⟩ | omega) (fun c30 => ?_) (fun c30 => by exfalso; omega)
  refine Go_aload_n (pc' := 47) dX8_operate_46 rfl rfl rfl ?_
  refine Go_callV_i (pc' := 50) (As := []) (st := []) dX8_operate_47 rfl ok_X8_pop km_RX8_39 QP.2.1 QP.1 ⟨_, _, rfl⟩ rfl (Nat.le_of_ble_eq_true rfl) rfl rfl rfl (Nat.le_of_ble_eq_true rfl) (Nat.lt_succ_self _) ?_
  refine s_pop QP hn hl hs (fun u1 n1 e1 l1 s1 => ?_)
  refine ⟨_, rfl, ?_⟩
  refine Go_istore_n (pc' := 51) (lv' := [.ref _, .int _, .ref _, .int _, un]) dX8_operate_50 rfl rfl (Nat.le_of_ble_eq_true rfl) rfl rfl ?_
  refine Go_aload_n (pc' := 52) dX8_operate_51 rfl rfl rfl ?_
  refine Go_callV_i (pc' := 55) (As := []) (st := []) dX8_operate_52 rfl ok_X8_pop km_RX8_39 QP.2.1 QP.1 ⟨_, _, rfl⟩ rfl (Nat.le_of_ble_eq_true rfl) rfl rfl rfl (Nat.le_of_ble_eq_true rfl) (Nat.lt_succ_self _) ?_
  refine s_pop QP e1 l1 s1 (fun u2 n2 e2 l2 s2 => ?_)
  refine ⟨_, rfl, ?_⟩
  refine Go_istore (pc' := 57) (lv' := [.ref _, .int _, .ref _, .int _, .int _]) dX8_operate_55 rfl (Nat.le_of_ble_eq_true rfl) rfl rfl ?_
  refine Go_aload_n (pc' := 58) dX8_operate_57 rfl rfl rfl ?_
  refine Go_iload_n (pc' := 59) dX8_operate_58 rfl rfl rfl ?_
  refine Go_iload (pc' := 61) dX8_operate_59 rfl rfl ?_
  refine Go_iload_n (pc' := 62) dX8_operate_61 rfl rfl rfl ?_
  refine Go_callS_i (pc' := 65) (As := [.int _, .int _, .int _]) (st := [.ref _]) dX8_operate_62 rfl ok_X8_join km_RX8_51 rfl (Nat.le_of_ble_eq_true rfl) rfl rfl rfl (Nat.le_of_ble_eq_true rfl) (Nat.lt_succ_self _) ?_
  refine s_join142 ?_
  refine ⟨_, rfl, ?_⟩
  refine Go_callV_v (pc' := 68) (As := [.int _]) (st := []) dX8_operate_65 rfl ok_X8_push km_RX8_32 QP.2.1 QP.1 ⟨_, _, rfl⟩ rfl (Nat.le_of_ble_eq_true rfl) rfl rfl rfl (Nat.le_of_ble_eq_true rfl) (Nat.lt_succ_self _) ?_
  refine s_push QP e2 l2 s2 (fun u9 n9 w1 w2 w3 => ?_)
  refine ⟨rfl, ?_⟩
  refine Go_return dX8_operate_68 rfl ?_
  have w4 := hk u9 n9
  rw [show cst F 10142 st = pushC st.tail.tail (bopV 10 (st.tail.headD 0) (st.headD 0)) from rfl] at w4
  exact w4 w1 w2 w3
set_option maxRecDepth 20000 in
set_option maxHeartbeats 1000000 in
theorem s_oper143 {G : GC} {d mc ms : Nat} {h : HS} {K : Option Value → HS → Prop} {q : Nat} {st : List Int32} {u : Nat → Int32} {n : Int} (QP : QPr h q) (hn : n = (st.length : Int)) (hl : st.length ≤ 40) (hs : St u st) (S : Shp h) {F : Nat → Int32} (hF : ∀ k, 1 ≤ k → k ≤ 7 → vi h 70 (k - 1) = F k) (hq : q = 74 ∨ q = 77) (hk : ∀ (u' : Nat → Int32) (n' : Int), n' = ((cst F 10143 st).length : Int) → (cst F 10143 st).length ≤ 40 → St u' (cst F 10143 st) → K none (hT h (q + 2) q 4 u' n')) : Go G (d + 1) mc ms M_X8_operate 0 [.ref q, .int (iZ 143), .ref 69, un, un] [] (hT h (q + 2) q 4 u n) K := by
  refine Go_iload_n (pc' := 1) dX8_operate_0 rfl rfl rfl ?_
  refine Go_bipush (v := iZ 7) (pc' := 3) dX8_operate_1 rfl (by decide) ?_
  refine Go_icmp_ltY (tgt := 27) (pc' := 6) dX8_operate_3 (by decide) rfl (by first | exact ⟨i_lo _, i_hi _⟩ | omega) (by first | exact ⟨i_lo _, i_hi _⟩ | omega) (fun c3 => by exfalso; omega) (fun c3 => ?_)
  refine Go_iload_n (pc' := 7) dX8_operate_6 rfl rfl rfl ?_
  refine Go_bipush (v := iZ 13) (pc' := 9) dX8_operate_7 rfl (by decide) ?_
  refine Go_icmp_gtY (tgt := 27) (pc' := 12) dX8_operate_9 (by decide) rfl (by first | exact ⟨i_lo _, i_hi _⟩ | omega) (by first | exact ⟨i_lo _, i_hi _⟩ | omega) (fun c9 => ?_) (fun c9 => by exfalso; omega)
  refine Go_iload_n (pc' := 28) dX8_operate_27 rfl rfl rfl ?_
  refine Go_bipush (v := iZ 6) (pc' := 30) dX8_operate_28 rfl (by decide) ?_
  refine Go_icmp_neY (tgt := 46) (pc' := 33) dX8_operate_30 (by decide) rfl (by first | exact ⟨i_lo _, i_hi _⟩ | omega) (by first | exact ⟨i_lo _, i_hi _⟩ | omega) (fun c30 => ?_) (fun c30 => by exfalso; omega)
  refine Go_aload_n (pc' := 47) dX8_operate_46 rfl rfl rfl ?_
  refine Go_callV_i (pc' := 50) (As := []) (st := []) dX8_operate_47 rfl ok_X8_pop km_RX8_39 QP.2.1 QP.1 ⟨_, _, rfl⟩ rfl (Nat.le_of_ble_eq_true rfl) rfl rfl rfl (Nat.le_of_ble_eq_true rfl) (Nat.lt_succ_self _) ?_
  refine s_pop QP hn hl hs (fun u1 n1 e1 l1 s1 => ?_)
  refine ⟨_, rfl, ?_⟩
  refine Go_istore_n (pc' := 51) (lv' := [.ref _, .int _, .ref _, .int _, un]) dX8_operate_50 rfl rfl (Nat.le_of_ble_eq_true rfl) rfl rfl ?_
  refine Go_aload_n (pc' := 52) dX8_operate_51 rfl rfl rfl ?_
  refine Go_callV_i (pc' := 55) (As := []) (st := []) dX8_operate_52 rfl ok_X8_pop km_RX8_39 QP.2.1 QP.1 ⟨_, _, rfl⟩ rfl (Nat.le_of_ble_eq_true rfl) rfl rfl rfl (Nat.le_of_ble_eq_true rfl) (Nat.lt_succ_self _) ?_
  refine s_pop QP e1 l1 s1 (fun u2 n2 e2 l2 s2 => ?_)
  refine ⟨_, rfl, ?_⟩
  refine Go_istore (pc' := 57) (lv' := [.ref _, .int _, .ref _, .int _, .int _]) dX8_operate_55 rfl (Nat.le_of_ble_eq_true rfl) rfl rfl ?_
  refine Go_aload_n (pc' := 58) dX8_operate_57 rfl rfl rfl ?_
  refine Go_iload_n (pc' := 59) dX8_operate_58 rfl rfl rfl ?_
  refine Go_iload (pc' := 61) dX8_operate_59 rfl rfl ?_
  refine Go_iload_n (pc' := 62) dX8_operate_61 rfl rfl rfl ?_
  refine Go_callS_i (pc' := 65) (As := [.int _, .int _, .int _]) (st := [.ref _]) dX8_operate_62 rfl ok_X8_join km_RX8_51 rfl (Nat.le_of_ble_eq_true rfl) rfl rfl rfl (Nat.le_of_ble_eq_true rfl) (Nat.lt_succ_self _) ?_
  refine s_join143 ?_
  refine ⟨_, rfl, ?_⟩
  refine Go_callV_v (pc' := 68) (As := [.int _]) (st := []) dX8_operate_65 rfl ok_X8_push km_RX8_32 QP.2.1 QP.1 ⟨_, _, rfl⟩ rfl (Nat.le_of_ble_eq_true rfl) rfl rfl rfl (Nat.le_of_ble_eq_true rfl) (Nat.lt_succ_self _) ?_
  refine s_push QP e2 l2 s2 (fun u9 n9 w1 w2 w3 => ?_)
  refine ⟨rfl, ?_⟩
  refine Go_return dX8_operate_68 rfl ?_
  have w4 := hk u9 n9
  rw [show cst F 10143 st = pushC st.tail.tail (bopV 8 (st.tail.headD 0) (st.headD 0)) from rfl] at w4
  exact w4 w1 w2 w3
set_option maxRecDepth 20000 in
set_option maxHeartbeats 1000000 in
theorem s_oper145 {G : GC} {d mc ms : Nat} {h : HS} {K : Option Value → HS → Prop} {q : Nat} {st : List Int32} {u : Nat → Int32} {n : Int} (QP : QPr h q) (hn : n = (st.length : Int)) (hl : st.length ≤ 40) (hs : St u st) (S : Shp h) {F : Nat → Int32} (hF : ∀ k, 1 ≤ k → k ≤ 7 → vi h 70 (k - 1) = F k) (hq : q = 74 ∨ q = 77) (hk : ∀ (u' : Nat → Int32) (n' : Int), n' = ((cst F 10145 st).length : Int) → (cst F 10145 st).length ≤ 40 → St u' (cst F 10145 st) → K none (hT h (q + 2) q 4 u' n')) : Go G (d + 1) mc ms M_X8_operate 0 [.ref q, .int (iZ 145), .ref 69, un, un] [] (hT h (q + 2) q 4 u n) K := by
  refine Go_iload_n (pc' := 1) dX8_operate_0 rfl rfl rfl ?_
  refine Go_bipush (v := iZ 7) (pc' := 3) dX8_operate_1 rfl (by decide) ?_
  refine Go_icmp_ltY (tgt := 27) (pc' := 6) dX8_operate_3 (by decide) rfl (by first | exact ⟨i_lo _, i_hi _⟩ | omega) (by first | exact ⟨i_lo _, i_hi _⟩ | omega) (fun c3 => by exfalso; omega) (fun c3 => ?_)
  refine Go_iload_n (pc' := 7) dX8_operate_6 rfl rfl rfl ?_
  refine Go_bipush (v := iZ 13) (pc' := 9) dX8_operate_7 rfl (by decide) ?_
  refine Go_icmp_gtY (tgt := 27) (pc' := 12) dX8_operate_9 (by decide) rfl (by first | exact ⟨i_lo _, i_hi _⟩ | omega) (by first | exact ⟨i_lo _, i_hi _⟩ | omega) (fun c9 => ?_) (fun c9 => by exfalso; omega)
  refine Go_iload_n (pc' := 28) dX8_operate_27 rfl rfl rfl ?_
  refine Go_bipush (v := iZ 6) (pc' := 30) dX8_operate_28 rfl (by decide) ?_
  refine Go_icmp_neY (tgt := 46) (pc' := 33) dX8_operate_30 (by decide) rfl (by first | exact ⟨i_lo _, i_hi _⟩ | omega) (by first | exact ⟨i_lo _, i_hi _⟩ | omega) (fun c30 => ?_) (fun c30 => by exfalso; omega)
  refine Go_aload_n (pc' := 47) dX8_operate_46 rfl rfl rfl ?_
  refine Go_callV_i (pc' := 50) (As := []) (st := []) dX8_operate_47 rfl ok_X8_pop km_RX8_39 QP.2.1 QP.1 ⟨_, _, rfl⟩ rfl (Nat.le_of_ble_eq_true rfl) rfl rfl rfl (Nat.le_of_ble_eq_true rfl) (Nat.lt_succ_self _) ?_
  refine s_pop QP hn hl hs (fun u1 n1 e1 l1 s1 => ?_)
  refine ⟨_, rfl, ?_⟩
  refine Go_istore_n (pc' := 51) (lv' := [.ref _, .int _, .ref _, .int _, un]) dX8_operate_50 rfl rfl (Nat.le_of_ble_eq_true rfl) rfl rfl ?_
  refine Go_aload_n (pc' := 52) dX8_operate_51 rfl rfl rfl ?_
  refine Go_callV_i (pc' := 55) (As := []) (st := []) dX8_operate_52 rfl ok_X8_pop km_RX8_39 QP.2.1 QP.1 ⟨_, _, rfl⟩ rfl (Nat.le_of_ble_eq_true rfl) rfl rfl rfl (Nat.le_of_ble_eq_true rfl) (Nat.lt_succ_self _) ?_
  refine s_pop QP e1 l1 s1 (fun u2 n2 e2 l2 s2 => ?_)
  refine ⟨_, rfl, ?_⟩
  refine Go_istore (pc' := 57) (lv' := [.ref _, .int _, .ref _, .int _, .int _]) dX8_operate_55 rfl (Nat.le_of_ble_eq_true rfl) rfl rfl ?_
  refine Go_aload_n (pc' := 58) dX8_operate_57 rfl rfl rfl ?_
  refine Go_iload_n (pc' := 59) dX8_operate_58 rfl rfl rfl ?_
  refine Go_iload (pc' := 61) dX8_operate_59 rfl rfl ?_
  refine Go_iload_n (pc' := 62) dX8_operate_61 rfl rfl rfl ?_
  refine Go_callS_i (pc' := 65) (As := [.int _, .int _, .int _]) (st := [.ref _]) dX8_operate_62 rfl ok_X8_join km_RX8_51 rfl (Nat.le_of_ble_eq_true rfl) rfl rfl rfl (Nat.le_of_ble_eq_true rfl) (Nat.lt_succ_self _) ?_
  refine s_join145 ?_
  refine ⟨_, rfl, ?_⟩
  refine Go_callV_v (pc' := 68) (As := [.int _]) (st := []) dX8_operate_65 rfl ok_X8_push km_RX8_32 QP.2.1 QP.1 ⟨_, _, rfl⟩ rfl (Nat.le_of_ble_eq_true rfl) rfl rfl rfl (Nat.le_of_ble_eq_true rfl) (Nat.lt_succ_self _) ?_
  refine s_push QP e2 l2 s2 (fun u9 n9 w1 w2 w3 => ?_)
  refine ⟨rfl, ?_⟩
  refine Go_return dX8_operate_68 rfl ?_
  have w4 := hk u9 n9
  rw [show cst F 10145 st = pushC st.tail.tail (bopV 9 (st.tail.headD 0) (st.headD 0)) from rfl] at w4
  exact w4 w1 w2 w3
set_option maxRecDepth 20000 in
set_option maxHeartbeats 1000000 in
theorem s_oper147 {G : GC} {d mc ms : Nat} {h : HS} {K : Option Value → HS → Prop} {q : Nat} {st : List Int32} {u : Nat → Int32} {n : Int} (QP : QPr h q) (hn : n = (st.length : Int)) (hl : st.length ≤ 40) (hs : St u st) (S : Shp h) {F : Nat → Int32} (hF : ∀ k, 1 ≤ k → k ≤ 7 → vi h 70 (k - 1) = F k) (hq : q = 74 ∨ q = 77) (hk : ∀ (u' : Nat → Int32) (n' : Int), n' = ((cst F 10147 st).length : Int) → (cst F 10147 st).length ≤ 40 → St u' (cst F 10147 st) → K none (hT h (q + 2) q 4 u' n')) : Go G (d + 1) mc ms M_X8_operate 0 [.ref q, .int (iZ 147), .ref 69, un, un] [] (hT h (q + 2) q 4 u n) K := by
  refine Go_iload_n (pc' := 1) dX8_operate_0 rfl rfl rfl ?_
  refine Go_bipush (v := iZ 7) (pc' := 3) dX8_operate_1 rfl (by decide) ?_
  refine Go_icmp_ltY (tgt := 27) (pc' := 6) dX8_operate_3 (by decide) rfl (by first | exact ⟨i_lo _, i_hi _⟩ | omega) (by first | exact ⟨i_lo _, i_hi _⟩ | omega) (fun c3 => by exfalso; omega) (fun c3 => ?_)
  refine Go_iload_n (pc' := 7) dX8_operate_6 rfl rfl rfl ?_
  refine Go_bipush (v := iZ 13) (pc' := 9) dX8_operate_7 rfl (by decide) ?_
  refine Go_icmp_gtY (tgt := 27) (pc' := 12) dX8_operate_9 (by decide) rfl (by first | exact ⟨i_lo _, i_hi _⟩ | omega) (by first | exact ⟨i_lo _, i_hi _⟩ | omega) (fun c9 => ?_) (fun c9 => by exfalso; omega)
  refine Go_iload_n (pc' := 28) dX8_operate_27 rfl rfl rfl ?_
  refine Go_bipush (v := iZ 6) (pc' := 30) dX8_operate_28 rfl (by decide) ?_
  refine Go_icmp_neY (tgt := 46) (pc' := 33) dX8_operate_30 (by decide) rfl (by first | exact ⟨i_lo _, i_hi _⟩ | omega) (by first | exact ⟨i_lo _, i_hi _⟩ | omega) (fun c30 => ?_) (fun c30 => by exfalso; omega)
  refine Go_aload_n (pc' := 47) dX8_operate_46 rfl rfl rfl ?_
  refine Go_callV_i (pc' := 50) (As := []) (st := []) dX8_operate_47 rfl ok_X8_pop km_RX8_39 QP.2.1 QP.1 ⟨_, _, rfl⟩ rfl (Nat.le_of_ble_eq_true rfl) rfl rfl rfl (Nat.le_of_ble_eq_true rfl) (Nat.lt_succ_self _) ?_
  refine s_pop QP hn hl hs (fun u1 n1 e1 l1 s1 => ?_)
  refine ⟨_, rfl, ?_⟩
  refine Go_istore_n (pc' := 51) (lv' := [.ref _, .int _, .ref _, .int _, un]) dX8_operate_50 rfl rfl (Nat.le_of_ble_eq_true rfl) rfl rfl ?_
  refine Go_aload_n (pc' := 52) dX8_operate_51 rfl rfl rfl ?_
  refine Go_callV_i (pc' := 55) (As := []) (st := []) dX8_operate_52 rfl ok_X8_pop km_RX8_39 QP.2.1 QP.1 ⟨_, _, rfl⟩ rfl (Nat.le_of_ble_eq_true rfl) rfl rfl rfl (Nat.le_of_ble_eq_true rfl) (Nat.lt_succ_self _) ?_
  refine s_pop QP e1 l1 s1 (fun u2 n2 e2 l2 s2 => ?_)
  refine ⟨_, rfl, ?_⟩
  refine Go_istore (pc' := 57) (lv' := [.ref _, .int _, .ref _, .int _, .int _]) dX8_operate_55 rfl (Nat.le_of_ble_eq_true rfl) rfl rfl ?_
  refine Go_aload_n (pc' := 58) dX8_operate_57 rfl rfl rfl ?_
  refine Go_iload_n (pc' := 59) dX8_operate_58 rfl rfl rfl ?_
  refine Go_iload (pc' := 61) dX8_operate_59 rfl rfl ?_
  refine Go_iload_n (pc' := 62) dX8_operate_61 rfl rfl rfl ?_
  refine Go_callS_i (pc' := 65) (As := [.int _, .int _, .int _]) (st := [.ref _]) dX8_operate_62 rfl ok_X8_join km_RX8_51 rfl (Nat.le_of_ble_eq_true rfl) rfl rfl rfl (Nat.le_of_ble_eq_true rfl) (Nat.lt_succ_self _) ?_
  refine s_join147 ?_
  refine ⟨_, rfl, ?_⟩
  refine Go_callV_v (pc' := 68) (As := [.int _]) (st := []) dX8_operate_65 rfl ok_X8_push km_RX8_32 QP.2.1 QP.1 ⟨_, _, rfl⟩ rfl (Nat.le_of_ble_eq_true rfl) rfl rfl rfl (Nat.le_of_ble_eq_true rfl) (Nat.lt_succ_self _) ?_
  refine s_push QP e2 l2 s2 (fun u9 n9 w1 w2 w3 => ?_)
  refine ⟨rfl, ?_⟩
  refine Go_return dX8_operate_68 rfl ?_
  have w4 := hk u9 n9
  rw [show cst F 10147 st = pushC st.tail.tail (bopV 11 (st.tail.headD 0) (st.headD 0)) from rfl] at w4
  exact w4 w1 w2 w3
set_option maxRecDepth 20000 in
set_option maxHeartbeats 1000000 in
theorem s_oper160 {G : GC} {d mc ms : Nat} {h : HS} {K : Option Value → HS → Prop} {q : Nat} {st : List Int32} {u : Nat → Int32} {n : Int} (QP : QPr h q) (hn : n = (st.length : Int)) (hl : st.length ≤ 40) (hs : St u st) (S : Shp h) {F : Nat → Int32} (hF : ∀ k, 1 ≤ k → k ≤ 7 → vi h 70 (k - 1) = F k) (hq : q = 74 ∨ q = 77) (hk : ∀ (u' : Nat → Int32) (n' : Int), n' = ((cst F 10160 st).length : Int) → (cst F 10160 st).length ≤ 40 → St u' (cst F 10160 st) → K none (hT h (q + 2) q 4 u' n')) : Go G (d + 1) mc ms M_X8_operate 0 [.ref q, .int (iZ 160), .ref 69, un, un] [] (hT h (q + 2) q 4 u n) K := by
  refine Go_iload_n (pc' := 1) dX8_operate_0 rfl rfl rfl ?_
  refine Go_bipush (v := iZ 7) (pc' := 3) dX8_operate_1 rfl (by decide) ?_
  refine Go_icmp_ltY (tgt := 27) (pc' := 6) dX8_operate_3 (by decide) rfl (by first | exact ⟨i_lo _, i_hi _⟩ | omega) (by first | exact ⟨i_lo _, i_hi _⟩ | omega) (fun c3 => by exfalso; omega) (fun c3 => ?_)
  refine Go_iload_n (pc' := 7) dX8_operate_6 rfl rfl rfl ?_
  refine Go_bipush (v := iZ 13) (pc' := 9) dX8_operate_7 rfl (by decide) ?_
  refine Go_icmp_gtY (tgt := 27) (pc' := 12) dX8_operate_9 (by decide) rfl (by first | exact ⟨i_lo _, i_hi _⟩ | omega) (by first | exact ⟨i_lo _, i_hi _⟩ | omega) (fun c9 => ?_) (fun c9 => by exfalso; omega)
  refine Go_iload_n (pc' := 28) dX8_operate_27 rfl rfl rfl ?_
  refine Go_bipush (v := iZ 6) (pc' := 30) dX8_operate_28 rfl (by decide) ?_
  refine Go_icmp_neY (tgt := 46) (pc' := 33) dX8_operate_30 (by decide) rfl (by first | exact ⟨i_lo _, i_hi _⟩ | omega) (by first | exact ⟨i_lo _, i_hi _⟩ | omega) (fun c30 => ?_) (fun c30 => by exfalso; omega)
  refine Go_aload_n (pc' := 47) dX8_operate_46 rfl rfl rfl ?_
  refine Go_callV_i (pc' := 50) (As := []) (st := []) dX8_operate_47 rfl ok_X8_pop km_RX8_39 QP.2.1 QP.1 ⟨_, _, rfl⟩ rfl (Nat.le_of_ble_eq_true rfl) rfl rfl rfl (Nat.le_of_ble_eq_true rfl) (Nat.lt_succ_self _) ?_
  refine s_pop QP hn hl hs (fun u1 n1 e1 l1 s1 => ?_)
  refine ⟨_, rfl, ?_⟩
  refine Go_istore_n (pc' := 51) (lv' := [.ref _, .int _, .ref _, .int _, un]) dX8_operate_50 rfl rfl (Nat.le_of_ble_eq_true rfl) rfl rfl ?_
  refine Go_aload_n (pc' := 52) dX8_operate_51 rfl rfl rfl ?_
  refine Go_callV_i (pc' := 55) (As := []) (st := []) dX8_operate_52 rfl ok_X8_pop km_RX8_39 QP.2.1 QP.1 ⟨_, _, rfl⟩ rfl (Nat.le_of_ble_eq_true rfl) rfl rfl rfl (Nat.le_of_ble_eq_true rfl) (Nat.lt_succ_self _) ?_
  refine s_pop QP e1 l1 s1 (fun u2 n2 e2 l2 s2 => ?_)
  refine ⟨_, rfl, ?_⟩
  refine Go_istore (pc' := 57) (lv' := [.ref _, .int _, .ref _, .int _, .int _]) dX8_operate_55 rfl (Nat.le_of_ble_eq_true rfl) rfl rfl ?_
  refine Go_aload_n (pc' := 58) dX8_operate_57 rfl rfl rfl ?_
  refine Go_iload_n (pc' := 59) dX8_operate_58 rfl rfl rfl ?_
  refine Go_iload (pc' := 61) dX8_operate_59 rfl rfl ?_
  refine Go_iload_n (pc' := 62) dX8_operate_61 rfl rfl rfl ?_
  refine Go_callS_i (pc' := 65) (As := [.int _, .int _, .int _]) (st := [.ref _]) dX8_operate_62 rfl ok_X8_join km_RX8_51 rfl (Nat.le_of_ble_eq_true rfl) rfl rfl rfl (Nat.le_of_ble_eq_true rfl) (Nat.lt_succ_self _) ?_
  refine s_join160 ?_
  refine ⟨_, rfl, ?_⟩
  refine Go_callV_v (pc' := 68) (As := [.int _]) (st := []) dX8_operate_65 rfl ok_X8_push km_RX8_32 QP.2.1 QP.1 ⟨_, _, rfl⟩ rfl (Nat.le_of_ble_eq_true rfl) rfl rfl rfl (Nat.le_of_ble_eq_true rfl) (Nat.lt_succ_self _) ?_
  refine s_push QP e2 l2 s2 (fun u9 n9 w1 w2 w3 => ?_)
  refine ⟨rfl, ?_⟩
  refine Go_return dX8_operate_68 rfl ?_
  have w4 := hk u9 n9
  rw [show cst F 10160 st = pushC st.tail.tail (bopV 12 (st.tail.headD 0) (st.headD 0)) from rfl] at w4
  exact w4 w1 w2 w3
set_option maxRecDepth 20000 in
set_option maxHeartbeats 1000000 in
theorem s_oper161 {G : GC} {d mc ms : Nat} {h : HS} {K : Option Value → HS → Prop} {q : Nat} {st : List Int32} {u : Nat → Int32} {n : Int} (QP : QPr h q) (hn : n = (st.length : Int)) (hl : st.length ≤ 40) (hs : St u st) (S : Shp h) {F : Nat → Int32} (hF : ∀ k, 1 ≤ k → k ≤ 7 → vi h 70 (k - 1) = F k) (hq : q = 74 ∨ q = 77) (hk : ∀ (u' : Nat → Int32) (n' : Int), n' = ((cst F 10161 st).length : Int) → (cst F 10161 st).length ≤ 40 → St u' (cst F 10161 st) → K none (hT h (q + 2) q 4 u' n')) : Go G (d + 1) mc ms M_X8_operate 0 [.ref q, .int (iZ 161), .ref 69, un, un] [] (hT h (q + 2) q 4 u n) K := by
  refine Go_iload_n (pc' := 1) dX8_operate_0 rfl rfl rfl ?_
  refine Go_bipush (v := iZ 7) (pc' := 3) dX8_operate_1 rfl (by decide) ?_
  refine Go_icmp_ltY (tgt := 27) (pc' := 6) dX8_operate_3 (by decide) rfl (by first | exact ⟨i_lo _, i_hi _⟩ | omega) (by first | exact ⟨i_lo _, i_hi _⟩ | omega) (fun c3 => by exfalso; omega) (fun c3 => ?_)
  refine Go_iload_n (pc' := 7) dX8_operate_6 rfl rfl rfl ?_
  refine Go_bipush (v := iZ 13) (pc' := 9) dX8_operate_7 rfl (by decide) ?_
  refine Go_icmp_gtY (tgt := 27) (pc' := 12) dX8_operate_9 (by decide) rfl (by first | exact ⟨i_lo _, i_hi _⟩ | omega) (by first | exact ⟨i_lo _, i_hi _⟩ | omega) (fun c9 => ?_) (fun c9 => by exfalso; omega)
  refine Go_iload_n (pc' := 28) dX8_operate_27 rfl rfl rfl ?_
  refine Go_bipush (v := iZ 6) (pc' := 30) dX8_operate_28 rfl (by decide) ?_
  refine Go_icmp_neY (tgt := 46) (pc' := 33) dX8_operate_30 (by decide) rfl (by first | exact ⟨i_lo _, i_hi _⟩ | omega) (by first | exact ⟨i_lo _, i_hi _⟩ | omega) (fun c30 => ?_) (fun c30 => by exfalso; omega)
  refine Go_aload_n (pc' := 47) dX8_operate_46 rfl rfl rfl ?_
  refine Go_callV_i (pc' := 50) (As := []) (st := []) dX8_operate_47 rfl ok_X8_pop km_RX8_39 QP.2.1 QP.1 ⟨_, _, rfl⟩ rfl (Nat.le_of_ble_eq_true rfl) rfl rfl rfl (Nat.le_of_ble_eq_true rfl) (Nat.lt_succ_self _) ?_
  refine s_pop QP hn hl hs (fun u1 n1 e1 l1 s1 => ?_)
  refine ⟨_, rfl, ?_⟩
  refine Go_istore_n (pc' := 51) (lv' := [.ref _, .int _, .ref _, .int _, un]) dX8_operate_50 rfl rfl (Nat.le_of_ble_eq_true rfl) rfl rfl ?_
  refine Go_aload_n (pc' := 52) dX8_operate_51 rfl rfl rfl ?_
  refine Go_callV_i (pc' := 55) (As := []) (st := []) dX8_operate_52 rfl ok_X8_pop km_RX8_39 QP.2.1 QP.1 ⟨_, _, rfl⟩ rfl (Nat.le_of_ble_eq_true rfl) rfl rfl rfl (Nat.le_of_ble_eq_true rfl) (Nat.lt_succ_self _) ?_
  refine s_pop QP e1 l1 s1 (fun u2 n2 e2 l2 s2 => ?_)
  refine ⟨_, rfl, ?_⟩
  refine Go_istore (pc' := 57) (lv' := [.ref _, .int _, .ref _, .int _, .int _]) dX8_operate_55 rfl (Nat.le_of_ble_eq_true rfl) rfl rfl ?_
  refine Go_aload_n (pc' := 58) dX8_operate_57 rfl rfl rfl ?_
  refine Go_iload_n (pc' := 59) dX8_operate_58 rfl rfl rfl ?_
  refine Go_iload (pc' := 61) dX8_operate_59 rfl rfl ?_
  refine Go_iload_n (pc' := 62) dX8_operate_61 rfl rfl rfl ?_
  refine Go_callS_i (pc' := 65) (As := [.int _, .int _, .int _]) (st := [.ref _]) dX8_operate_62 rfl ok_X8_join km_RX8_51 rfl (Nat.le_of_ble_eq_true rfl) rfl rfl rfl (Nat.le_of_ble_eq_true rfl) (Nat.lt_succ_self _) ?_
  refine s_join161 ?_
  refine ⟨_, rfl, ?_⟩
  refine Go_callV_v (pc' := 68) (As := [.int _]) (st := []) dX8_operate_65 rfl ok_X8_push km_RX8_32 QP.2.1 QP.1 ⟨_, _, rfl⟩ rfl (Nat.le_of_ble_eq_true rfl) rfl rfl rfl (Nat.le_of_ble_eq_true rfl) (Nat.lt_succ_self _) ?_
  refine s_push QP e2 l2 s2 (fun u9 n9 w1 w2 w3 => ?_)
  refine ⟨rfl, ?_⟩
  refine Go_return dX8_operate_68 rfl ?_
  have w4 := hk u9 n9
  rw [show cst F 10161 st = pushC st.tail.tail (bopV 13 (st.tail.headD 0) (st.headD 0)) from rfl] at w4
  exact w4 w1 w2 w3
set_option maxRecDepth 20000 in
set_option maxHeartbeats 1000000 in
theorem s_oper162 {G : GC} {d mc ms : Nat} {h : HS} {K : Option Value → HS → Prop} {q : Nat} {st : List Int32} {u : Nat → Int32} {n : Int} (QP : QPr h q) (hn : n = (st.length : Int)) (hl : st.length ≤ 40) (hs : St u st) (S : Shp h) {F : Nat → Int32} (hF : ∀ k, 1 ≤ k → k ≤ 7 → vi h 70 (k - 1) = F k) (hq : q = 74 ∨ q = 77) (hk : ∀ (u' : Nat → Int32) (n' : Int), n' = ((cst F 10162 st).length : Int) → (cst F 10162 st).length ≤ 40 → St u' (cst F 10162 st) → K none (hT h (q + 2) q 4 u' n')) : Go G (d + 1) mc ms M_X8_operate 0 [.ref q, .int (iZ 162), .ref 69, un, un] [] (hT h (q + 2) q 4 u n) K := by
  refine Go_iload_n (pc' := 1) dX8_operate_0 rfl rfl rfl ?_
  refine Go_bipush (v := iZ 7) (pc' := 3) dX8_operate_1 rfl (by decide) ?_
  refine Go_icmp_ltY (tgt := 27) (pc' := 6) dX8_operate_3 (by decide) rfl (by first | exact ⟨i_lo _, i_hi _⟩ | omega) (by first | exact ⟨i_lo _, i_hi _⟩ | omega) (fun c3 => by exfalso; omega) (fun c3 => ?_)
  refine Go_iload_n (pc' := 7) dX8_operate_6 rfl rfl rfl ?_
  refine Go_bipush (v := iZ 13) (pc' := 9) dX8_operate_7 rfl (by decide) ?_
  refine Go_icmp_gtY (tgt := 27) (pc' := 12) dX8_operate_9 (by decide) rfl (by first | exact ⟨i_lo _, i_hi _⟩ | omega) (by first | exact ⟨i_lo _, i_hi _⟩ | omega) (fun c9 => ?_) (fun c9 => by exfalso; omega)
  refine Go_iload_n (pc' := 28) dX8_operate_27 rfl rfl rfl ?_
  refine Go_bipush (v := iZ 6) (pc' := 30) dX8_operate_28 rfl (by decide) ?_
  refine Go_icmp_neY (tgt := 46) (pc' := 33) dX8_operate_30 (by decide) rfl (by first | exact ⟨i_lo _, i_hi _⟩ | omega) (by first | exact ⟨i_lo _, i_hi _⟩ | omega) (fun c30 => ?_) (fun c30 => by exfalso; omega)
  refine Go_aload_n (pc' := 47) dX8_operate_46 rfl rfl rfl ?_
  refine Go_callV_i (pc' := 50) (As := []) (st := []) dX8_operate_47 rfl ok_X8_pop km_RX8_39 QP.2.1 QP.1 ⟨_, _, rfl⟩ rfl (Nat.le_of_ble_eq_true rfl) rfl rfl rfl (Nat.le_of_ble_eq_true rfl) (Nat.lt_succ_self _) ?_
  refine s_pop QP hn hl hs (fun u1 n1 e1 l1 s1 => ?_)
  refine ⟨_, rfl, ?_⟩
  refine Go_istore_n (pc' := 51) (lv' := [.ref _, .int _, .ref _, .int _, un]) dX8_operate_50 rfl rfl (Nat.le_of_ble_eq_true rfl) rfl rfl ?_
  refine Go_aload_n (pc' := 52) dX8_operate_51 rfl rfl rfl ?_
  refine Go_callV_i (pc' := 55) (As := []) (st := []) dX8_operate_52 rfl ok_X8_pop km_RX8_39 QP.2.1 QP.1 ⟨_, _, rfl⟩ rfl (Nat.le_of_ble_eq_true rfl) rfl rfl rfl (Nat.le_of_ble_eq_true rfl) (Nat.lt_succ_self _) ?_
  refine s_pop QP e1 l1 s1 (fun u2 n2 e2 l2 s2 => ?_)
  refine ⟨_, rfl, ?_⟩
  refine Go_istore (pc' := 57) (lv' := [.ref _, .int _, .ref _, .int _, .int _]) dX8_operate_55 rfl (Nat.le_of_ble_eq_true rfl) rfl rfl ?_
  refine Go_aload_n (pc' := 58) dX8_operate_57 rfl rfl rfl ?_
  refine Go_iload_n (pc' := 59) dX8_operate_58 rfl rfl rfl ?_
  refine Go_iload (pc' := 61) dX8_operate_59 rfl rfl ?_
  refine Go_iload_n (pc' := 62) dX8_operate_61 rfl rfl rfl ?_
  refine Go_callS_i (pc' := 65) (As := [.int _, .int _, .int _]) (st := [.ref _]) dX8_operate_62 rfl ok_X8_join km_RX8_51 rfl (Nat.le_of_ble_eq_true rfl) rfl rfl rfl (Nat.le_of_ble_eq_true rfl) (Nat.lt_succ_self _) ?_
  refine s_join162 ?_
  refine ⟨_, rfl, ?_⟩
  refine Go_callV_v (pc' := 68) (As := [.int _]) (st := []) dX8_operate_65 rfl ok_X8_push km_RX8_32 QP.2.1 QP.1 ⟨_, _, rfl⟩ rfl (Nat.le_of_ble_eq_true rfl) rfl rfl rfl (Nat.le_of_ble_eq_true rfl) (Nat.lt_succ_self _) ?_
  refine s_push QP e2 l2 s2 (fun u9 n9 w1 w2 w3 => ?_)
  refine ⟨rfl, ?_⟩
  refine Go_return dX8_operate_68 rfl ?_
  have w4 := hk u9 n9
  rw [show cst F 10162 st = pushC st.tail.tail (bopV 14 (st.tail.headD 0) (st.headD 0)) from rfl] at w4
  exact w4 w1 w2 w3
set_option maxRecDepth 20000 in
set_option maxHeartbeats 4000000 in
theorem jg_loop {G : GC} {d mc ms : Nat} {h : HS} {K : Option Value → HS → Prop} {q L : Nat} (S : Shp h) (QP : QPr h q) (hq : q = 74 ∨ q = 77) {F : Nat → Int32} (hF : ∀ k, 1 ≤ k → k ≤ 7 → vi h 70 (k - 1) = F k) {c : Nat → Int} (hL : L ≤ 600) (e1 : vi h q 1 = iZ (L : Int)) (hc : ∀ i, i < L → vi h (q + 1) i = iZ (c i) ∧ cod (c i)) : ∀ (m i : Nat) (st : List Int32) (u : Nat → Int32) (n : Int) (v3 : Value), i + m = L → n = (st.length : Int) → st.length ≤ 40 → St u st → (∀ (u' : Nat → Int32) (n' : Int), K (some (.int (iZ (jx c F m i st)))) (hT h (q + 2) q 4 u' n')) → Go G (d + 2) mc ms M_X8_judge 7 [.ref q, .ref 69, .int (iZ (i : Int)), v3] [] (hT h (q + 2) q 4 u n) K := by
  have hq2 : q + 2 ≠ 70 ∧ 70 ≠ q := by omega
  intro m
  induction m with
  | zero =>
    intro i st u n v3 hm hn hl hs hk
    refine Go_iload_n (pc' := 8) dX8_judge_7 rfl rfl rfl ?_
    refine Go_aload_n (pc' := 9) dX8_judge_8 rfl rfl rfl ?_
    refine Go_getIv (v := (iZ (L : Int))) (pc' := 12) dX8_judge_9 rfl kf_RX8_18 (by decide) (by decide) rfl QP.1 QP.2.1 ((hT_o (by omega) (by omega)).trans e1) ?_
    refine Go_icmp_geY (tgt := 76) (pc' := 15) dX8_judge_12 (by decide) rfl (by first | exact ⟨i_lo _, i_hi _⟩ | omega) (by first | exact ⟨i_lo _, i_hi _⟩ | omega) (fun c12 => ?_) (fun c12 => by exfalso; omega)
    refine Go_iconst (v := iZ 0) (pc' := 77) dX8_judge_76 rfl (by decide) ?_
    refine Go_ireturn (ty := .int) dX8_judge_77 rfl rfl ?_
    exact hk u n
  | succ m ih =>
    intro i st u n v3 hm hn hl hs hk
    obtain ⟨hv, hcc⟩ := hc i (by omega)
    rcases hcc with hx | hx | hx | hx | hx | hx | hx | hx | hx | hx | hx | hx
    · rw [jx_c (by omega)] at hk
      have ec : cst F (c i) st = pushC st (iZ (c i)) := by unfold cst; rw [if_pos (by omega)]
      rw [ec] at hk
      refine Go_iload_n (pc' := 8) dX8_judge_7 rfl rfl rfl ?_
      refine Go_aload_n (pc' := 9) dX8_judge_8 rfl rfl rfl ?_
      refine Go_getIv (v := (iZ (L : Int))) (pc' := 12) dX8_judge_9 rfl kf_RX8_18 (by decide) (by decide) rfl QP.1 QP.2.1 ((hT_o (by omega) (by omega)).trans e1) ?_
      refine Go_icmp_geY (tgt := 76) (pc' := 15) dX8_judge_12 (by decide) rfl (by first | exact ⟨i_lo _, i_hi _⟩ | omega) (by first | exact ⟨i_lo _, i_hi _⟩ | omega) (fun c12 => by exfalso; omega) (fun c12 => ?_)
      refine Go_aload_n (pc' := 16) dX8_judge_15 rfl rfl rfl ?_
      refine Go_getRs (pc' := 19) dX8_judge_16 rfl kf_RX8_9 (by decide) (by decide) rfl QP.1 QP.2.1 QP.2.2.1 ?_
      refine Go_iload_n (pc' := 20) dX8_judge_19 rfl rfl rfl ?_
      refine Go_ialoadZ (n := 600) (k := i) (v := (iZ (c i))) (pc' := 21) dX8_judge_20 rfl QP.2.2.2.2.1 QP.2.2.2.2.2.1 rfl (by omega) (by decide) (((hT_o (by omega) (by omega)).trans hv)) ?_
      refine Go_istore_n (pc' := 22) (lv' := [.ref _, .ref _, .int _, .int _]) dX8_judge_21 rfl rfl (Nat.le_of_ble_eq_true rfl) rfl rfl ?_
      refine Go_iload_n (pc' := 23) dX8_judge_22 rfl rfl rfl ?_
      refine Go_sipush (v := iZ 10000) (pc' := 26) dX8_judge_23 rfl (by decide) ?_
      refine Go_icmp_geY (tgt := 37) (pc' := 29) dX8_judge_26 (by decide) rfl (by first | exact ⟨i_lo _, i_hi _⟩ | omega) (by first | exact ⟨i_lo _, i_hi _⟩ | omega) (fun c26 => by exfalso; omega) (fun c26 => ?_)
      refine Go_aload_n (pc' := 30) dX8_judge_29 rfl rfl rfl ?_
      refine Go_iload_n (pc' := 31) dX8_judge_30 rfl rfl rfl ?_
      refine Go_callV_v (pc' := 34) (As := [.int _]) (st := []) dX8_judge_31 rfl ok_X8_push km_RX8_32 QP.2.1 QP.1 ⟨_, _, rfl⟩ rfl (Nat.le_of_ble_eq_true rfl) rfl rfl rfl (Nat.le_of_ble_eq_true rfl) (Nat.lt_succ_self _) ?_
      refine s_push QP hn hl hs (fun u9 n9 w1 w2 w3 => ?_)
      refine ⟨rfl, ?_⟩
      refine Go_goto (tgt := 70) dX8_judge_34 (by decide) ?_
      refine Go_iincZ (pc' := 73) (lv' := [.ref _, .ref _, .int _, _]) dX8_judge_70 rfl rfl (Nat.le_of_ble_eq_true rfl) rfl rfl ?_
      refine Go_goto (tgt := 7) dX8_judge_73 (by decide) ?_
      exact ih (i + 1) _ _ _ _ (by omega) w1 w2 w3 hk
    · rw [jx_c (by omega)] at hk
      by_cases h6 : c i = 10006
      · rw [h6] at hk hv
        refine Go_iload_n (pc' := 8) dX8_judge_7 rfl rfl rfl ?_
        refine Go_aload_n (pc' := 9) dX8_judge_8 rfl rfl rfl ?_
        refine Go_getIv (v := (iZ (L : Int))) (pc' := 12) dX8_judge_9 rfl kf_RX8_18 (by decide) (by decide) rfl QP.1 QP.2.1 ((hT_o (by omega) (by omega)).trans e1) ?_
        refine Go_icmp_geY (tgt := 76) (pc' := 15) dX8_judge_12 (by decide) rfl (by first | exact ⟨i_lo _, i_hi _⟩ | omega) (by first | exact ⟨i_lo _, i_hi _⟩ | omega) (fun c12 => by exfalso; omega) (fun c12 => ?_)
        refine Go_aload_n (pc' := 16) dX8_judge_15 rfl rfl rfl ?_
        refine Go_getRs (pc' := 19) dX8_judge_16 rfl kf_RX8_9 (by decide) (by decide) rfl QP.1 QP.2.1 QP.2.2.1 ?_
        refine Go_iload_n (pc' := 20) dX8_judge_19 rfl rfl rfl ?_
        refine Go_ialoadZ (n := 600) (k := i) (v := (iZ 10006)) (pc' := 21) dX8_judge_20 rfl QP.2.2.2.2.1 QP.2.2.2.2.2.1 rfl (by omega) (by decide) (((hT_o (by omega) (by omega)).trans hv)) ?_
        refine Go_istore_n (pc' := 22) (lv' := [.ref _, .ref _, .int _, .int _]) dX8_judge_21 rfl rfl (Nat.le_of_ble_eq_true rfl) rfl rfl ?_
        refine Go_iload_n (pc' := 23) dX8_judge_22 rfl rfl rfl ?_
        refine Go_sipush (v := iZ 10000) (pc' := 26) dX8_judge_23 rfl (by decide) ?_
        refine Go_icmp_geY (tgt := 37) (pc' := 29) dX8_judge_26 (by decide) rfl (by first | exact ⟨i_lo _, i_hi _⟩ | omega) (by first | exact ⟨i_lo _, i_hi _⟩ | omega) (fun c26 => ?_) (fun c26 => by exfalso; omega)
        refine Go_iload_n (pc' := 38) dX8_judge_37 rfl rfl rfl ?_
        refine Go_sipush (v := iZ 20000) (pc' := 41) dX8_judge_38 rfl (by decide) ?_
        refine Go_icmp_geY (tgt := 57) (pc' := 44) dX8_judge_41 (by decide) rfl (by first | exact ⟨i_lo _, i_hi _⟩ | omega) (by first | exact ⟨i_lo _, i_hi _⟩ | omega) (fun c41 => by exfalso; omega) (fun c41 => ?_)
        refine Go_aload_n (pc' := 45) dX8_judge_44 rfl rfl rfl ?_
        refine Go_iload_n (pc' := 46) dX8_judge_45 rfl rfl rfl ?_
        refine Go_sipush (v := iZ 10000) (pc' := 49) dX8_judge_46 rfl (by decide) ?_
        refine Go_isub (pc' := 50) dX8_judge_49 rfl ?_
        rw [show (iZ 10006 - iZ 10000 : Int32) = iZ 6 from by decide]
        refine Go_aload_n (pc' := 51) dX8_judge_50 rfl rfl rfl ?_
        refine Go_callV_v (pc' := 54) (As := [.int _, .ref _]) (st := []) dX8_judge_51 rfl ok_X8_operate km_RX8_35 QP.2.1 QP.1 ⟨_, _, rfl⟩ rfl (Nat.le_of_ble_eq_true rfl) rfl rfl rfl (Nat.le_of_ble_eq_true rfl) (Nat.lt_succ_self _) ?_
        refine s_operN QP hn hl hs S hF hq (fun u9 n9 w1 w2 w3 => ?_)
        refine ⟨rfl, ?_⟩
        refine Go_goto (tgt := 70) dX8_judge_54 (by decide) ?_
        refine Go_iincZ (pc' := 73) (lv' := [.ref _, .ref _, .int _, _]) dX8_judge_70 rfl rfl (Nat.le_of_ble_eq_true rfl) rfl rfl ?_
        refine Go_goto (tgt := 7) dX8_judge_73 (by decide) ?_
        exact ih (i + 1) _ _ _ _ (by omega) w1 w2 w3 hk
      · refine Go_iload_n (pc' := 8) dX8_judge_7 rfl rfl rfl ?_
        refine Go_aload_n (pc' := 9) dX8_judge_8 rfl rfl rfl ?_
        refine Go_getIv (v := (iZ (L : Int))) (pc' := 12) dX8_judge_9 rfl kf_RX8_18 (by decide) (by decide) rfl QP.1 QP.2.1 ((hT_o (by omega) (by omega)).trans e1) ?_
        refine Go_icmp_geY (tgt := 76) (pc' := 15) dX8_judge_12 (by decide) rfl (by first | exact ⟨i_lo _, i_hi _⟩ | omega) (by first | exact ⟨i_lo _, i_hi _⟩ | omega) (fun c12 => by exfalso; omega) (fun c12 => ?_)
        refine Go_aload_n (pc' := 16) dX8_judge_15 rfl rfl rfl ?_
        refine Go_getRs (pc' := 19) dX8_judge_16 rfl kf_RX8_9 (by decide) (by decide) rfl QP.1 QP.2.1 QP.2.2.1 ?_
        refine Go_iload_n (pc' := 20) dX8_judge_19 rfl rfl rfl ?_
        refine Go_ialoadZ (n := 600) (k := i) (v := (iZ (c i))) (pc' := 21) dX8_judge_20 rfl QP.2.2.2.2.1 QP.2.2.2.2.2.1 rfl (by omega) (by decide) (((hT_o (by omega) (by omega)).trans hv)) ?_
        refine Go_istore_n (pc' := 22) (lv' := [.ref _, .ref _, .int _, .int _]) dX8_judge_21 rfl rfl (Nat.le_of_ble_eq_true rfl) rfl rfl ?_
        refine Go_iload_n (pc' := 23) dX8_judge_22 rfl rfl rfl ?_
        refine Go_sipush (v := iZ 10000) (pc' := 26) dX8_judge_23 rfl (by decide) ?_
        refine Go_icmp_geY (tgt := 37) (pc' := 29) dX8_judge_26 (by decide) rfl (by first | exact ⟨i_lo _, i_hi _⟩ | omega) (by first | exact ⟨i_lo _, i_hi _⟩ | omega) (fun c26 => ?_) (fun c26 => by exfalso; omega)
        refine Go_iload_n (pc' := 38) dX8_judge_37 rfl rfl rfl ?_
        refine Go_sipush (v := iZ 20000) (pc' := 41) dX8_judge_38 rfl (by decide) ?_
        refine Go_icmp_geY (tgt := 57) (pc' := 44) dX8_judge_41 (by decide) rfl (by first | exact ⟨i_lo _, i_hi _⟩ | omega) (by first | exact ⟨i_lo _, i_hi _⟩ | omega) (fun c41 => by exfalso; omega) (fun c41 => ?_)
        refine Go_aload_n (pc' := 45) dX8_judge_44 rfl rfl rfl ?_
        refine Go_iload_n (pc' := 46) dX8_judge_45 rfl rfl rfl ?_
        refine Go_sipush (v := iZ 10000) (pc' := 49) dX8_judge_46 rfl (by decide) ?_
        refine Go_isubZ (pc' := 50) dX8_judge_49 rfl ?_
        refine Go_aload_n (pc' := 51) dX8_judge_50 rfl rfl rfl ?_
        refine Go_callV_v (pc' := 54) (As := [.int _, .ref _]) (st := []) dX8_judge_51 rfl ok_X8_operate km_RX8_35 QP.2.1 QP.1 ⟨_, _, rfl⟩ rfl (Nat.le_of_ble_eq_true rfl) rfl rfl rfl (Nat.le_of_ble_eq_true rfl) (Nat.lt_succ_self _) ?_
        refine s_operF QP hn hl hs S hF hq (c := c i) (by omega) (fun u9 n9 w1 w2 w3 => ?_)
        refine ⟨rfl, ?_⟩
        refine Go_goto (tgt := 70) dX8_judge_54 (by decide) ?_
        refine Go_iincZ (pc' := 73) (lv' := [.ref _, .ref _, .int _, _]) dX8_judge_70 rfl rfl (Nat.le_of_ble_eq_true rfl) rfl rfl ?_
        refine Go_goto (tgt := 7) dX8_judge_73 (by decide) ?_
        exact ih (i + 1) _ _ _ _ (by omega) w1 w2 w3 hk
    · rw [jx_c (by omega)] at hk
      rw [hx] at hk hv
      refine Go_iload_n (pc' := 8) dX8_judge_7 rfl rfl rfl ?_
      refine Go_aload_n (pc' := 9) dX8_judge_8 rfl rfl rfl ?_
      refine Go_getIv (v := (iZ (L : Int))) (pc' := 12) dX8_judge_9 rfl kf_RX8_18 (by decide) (by decide) rfl QP.1 QP.2.1 ((hT_o (by omega) (by omega)).trans e1) ?_
      refine Go_icmp_geY (tgt := 76) (pc' := 15) dX8_judge_12 (by decide) rfl (by first | exact ⟨i_lo _, i_hi _⟩ | omega) (by first | exact ⟨i_lo _, i_hi _⟩ | omega) (fun c12 => by exfalso; omega) (fun c12 => ?_)
      refine Go_aload_n (pc' := 16) dX8_judge_15 rfl rfl rfl ?_
      refine Go_getRs (pc' := 19) dX8_judge_16 rfl kf_RX8_9 (by decide) (by decide) rfl QP.1 QP.2.1 QP.2.2.1 ?_
      refine Go_iload_n (pc' := 20) dX8_judge_19 rfl rfl rfl ?_
      refine Go_ialoadZ (n := 600) (k := i) (v := (iZ 10004)) (pc' := 21) dX8_judge_20 rfl QP.2.2.2.2.1 QP.2.2.2.2.2.1 rfl (by omega) (by decide) (((hT_o (by omega) (by omega)).trans hv)) ?_
      refine Go_istore_n (pc' := 22) (lv' := [.ref _, .ref _, .int _, .int _]) dX8_judge_21 rfl rfl (Nat.le_of_ble_eq_true rfl) rfl rfl ?_
      refine Go_iload_n (pc' := 23) dX8_judge_22 rfl rfl rfl ?_
      refine Go_sipush (v := iZ 10000) (pc' := 26) dX8_judge_23 rfl (by decide) ?_
      refine Go_icmp_geY (tgt := 37) (pc' := 29) dX8_judge_26 (by decide) rfl (by first | exact ⟨i_lo _, i_hi _⟩ | omega) (by first | exact ⟨i_lo _, i_hi _⟩ | omega) (fun c26 => ?_) (fun c26 => by exfalso; omega)
      refine Go_iload_n (pc' := 38) dX8_judge_37 rfl rfl rfl ?_
      refine Go_sipush (v := iZ 20000) (pc' := 41) dX8_judge_38 rfl (by decide) ?_
      refine Go_icmp_geY (tgt := 57) (pc' := 44) dX8_judge_41 (by decide) rfl (by first | exact ⟨i_lo _, i_hi _⟩ | omega) (by first | exact ⟨i_lo _, i_hi _⟩ | omega) (fun c41 => by exfalso; omega) (fun c41 => ?_)
      refine Go_aload_n (pc' := 45) dX8_judge_44 rfl rfl rfl ?_
      refine Go_iload_n (pc' := 46) dX8_judge_45 rfl rfl rfl ?_
      refine Go_sipush (v := iZ 10000) (pc' := 49) dX8_judge_46 rfl (by decide) ?_
      refine Go_isub (pc' := 50) dX8_judge_49 rfl ?_
      rw [show (iZ 10004 - iZ 10000 : Int32) = iZ 4 from by decide]
      refine Go_aload_n (pc' := 51) dX8_judge_50 rfl rfl rfl ?_
      refine Go_callV_v (pc' := 54) (As := [.int _, .ref _]) (st := []) dX8_judge_51 rfl ok_X8_operate km_RX8_35 QP.2.1 QP.1 ⟨_, _, rfl⟩ rfl (Nat.le_of_ble_eq_true rfl) rfl rfl rfl (Nat.le_of_ble_eq_true rfl) (Nat.lt_succ_self _) ?_
      refine s_oper4 QP hn hl hs S hF hq (fun u9 n9 w1 w2 w3 => ?_)
      refine ⟨rfl, ?_⟩
      refine Go_goto (tgt := 70) dX8_judge_54 (by decide) ?_
      refine Go_iincZ (pc' := 73) (lv' := [.ref _, .ref _, .int _, _]) dX8_judge_70 rfl rfl (Nat.le_of_ble_eq_true rfl) rfl rfl ?_
      refine Go_goto (tgt := 7) dX8_judge_73 (by decide) ?_
      exact ih (i + 1) _ _ _ _ (by omega) w1 w2 w3 hk
    · rw [jx_c (by omega)] at hk
      rw [hx] at hk hv
      refine Go_iload_n (pc' := 8) dX8_judge_7 rfl rfl rfl ?_
      refine Go_aload_n (pc' := 9) dX8_judge_8 rfl rfl rfl ?_
      refine Go_getIv (v := (iZ (L : Int))) (pc' := 12) dX8_judge_9 rfl kf_RX8_18 (by decide) (by decide) rfl QP.1 QP.2.1 ((hT_o (by omega) (by omega)).trans e1) ?_
      refine Go_icmp_geY (tgt := 76) (pc' := 15) dX8_judge_12 (by decide) rfl (by first | exact ⟨i_lo _, i_hi _⟩ | omega) (by first | exact ⟨i_lo _, i_hi _⟩ | omega) (fun c12 => by exfalso; omega) (fun c12 => ?_)
      refine Go_aload_n (pc' := 16) dX8_judge_15 rfl rfl rfl ?_
      refine Go_getRs (pc' := 19) dX8_judge_16 rfl kf_RX8_9 (by decide) (by decide) rfl QP.1 QP.2.1 QP.2.2.1 ?_
      refine Go_iload_n (pc' := 20) dX8_judge_19 rfl rfl rfl ?_
      refine Go_ialoadZ (n := 600) (k := i) (v := (iZ 10005)) (pc' := 21) dX8_judge_20 rfl QP.2.2.2.2.1 QP.2.2.2.2.2.1 rfl (by omega) (by decide) (((hT_o (by omega) (by omega)).trans hv)) ?_
      refine Go_istore_n (pc' := 22) (lv' := [.ref _, .ref _, .int _, .int _]) dX8_judge_21 rfl rfl (Nat.le_of_ble_eq_true rfl) rfl rfl ?_
      refine Go_iload_n (pc' := 23) dX8_judge_22 rfl rfl rfl ?_
      refine Go_sipush (v := iZ 10000) (pc' := 26) dX8_judge_23 rfl (by decide) ?_
      refine Go_icmp_geY (tgt := 37) (pc' := 29) dX8_judge_26 (by decide) rfl (by first | exact ⟨i_lo _, i_hi _⟩ | omega) (by first | exact ⟨i_lo _, i_hi _⟩ | omega) (fun c26 => ?_) (fun c26 => by exfalso; omega)
      refine Go_iload_n (pc' := 38) dX8_judge_37 rfl rfl rfl ?_
      refine Go_sipush (v := iZ 20000) (pc' := 41) dX8_judge_38 rfl (by decide) ?_
      refine Go_icmp_geY (tgt := 57) (pc' := 44) dX8_judge_41 (by decide) rfl (by first | exact ⟨i_lo _, i_hi _⟩ | omega) (by first | exact ⟨i_lo _, i_hi _⟩ | omega) (fun c41 => by exfalso; omega) (fun c41 => ?_)
      refine Go_aload_n (pc' := 45) dX8_judge_44 rfl rfl rfl ?_
      refine Go_iload_n (pc' := 46) dX8_judge_45 rfl rfl rfl ?_
      refine Go_sipush (v := iZ 10000) (pc' := 49) dX8_judge_46 rfl (by decide) ?_
      refine Go_isub (pc' := 50) dX8_judge_49 rfl ?_
      rw [show (iZ 10005 - iZ 10000 : Int32) = iZ 5 from by decide]
      refine Go_aload_n (pc' := 51) dX8_judge_50 rfl rfl rfl ?_
      refine Go_callV_v (pc' := 54) (As := [.int _, .ref _]) (st := []) dX8_judge_51 rfl ok_X8_operate km_RX8_35 QP.2.1 QP.1 ⟨_, _, rfl⟩ rfl (Nat.le_of_ble_eq_true rfl) rfl rfl rfl (Nat.le_of_ble_eq_true rfl) (Nat.lt_succ_self _) ?_
      refine s_oper5 QP hn hl hs S hF hq (fun u9 n9 w1 w2 w3 => ?_)
      refine ⟨rfl, ?_⟩
      refine Go_goto (tgt := 70) dX8_judge_54 (by decide) ?_
      refine Go_iincZ (pc' := 73) (lv' := [.ref _, .ref _, .int _, _]) dX8_judge_70 rfl rfl (Nat.le_of_ble_eq_true rfl) rfl rfl ?_
      refine Go_goto (tgt := 7) dX8_judge_73 (by decide) ?_
      exact ih (i + 1) _ _ _ _ (by omega) w1 w2 w3 hk
    · rw [jx_c (by omega)] at hk
      rw [hx] at hk hv
      refine Go_iload_n (pc' := 8) dX8_judge_7 rfl rfl rfl ?_
      refine Go_aload_n (pc' := 9) dX8_judge_8 rfl rfl rfl ?_
      refine Go_getIv (v := (iZ (L : Int))) (pc' := 12) dX8_judge_9 rfl kf_RX8_18 (by decide) (by decide) rfl QP.1 QP.2.1 ((hT_o (by omega) (by omega)).trans e1) ?_
      refine Go_icmp_geY (tgt := 76) (pc' := 15) dX8_judge_12 (by decide) rfl (by first | exact ⟨i_lo _, i_hi _⟩ | omega) (by first | exact ⟨i_lo _, i_hi _⟩ | omega) (fun c12 => by exfalso; omega) (fun c12 => ?_)
      refine Go_aload_n (pc' := 16) dX8_judge_15 rfl rfl rfl ?_
      refine Go_getRs (pc' := 19) dX8_judge_16 rfl kf_RX8_9 (by decide) (by decide) rfl QP.1 QP.2.1 QP.2.2.1 ?_
      refine Go_iload_n (pc' := 20) dX8_judge_19 rfl rfl rfl ?_
      refine Go_ialoadZ (n := 600) (k := i) (v := (iZ 10142)) (pc' := 21) dX8_judge_20 rfl QP.2.2.2.2.1 QP.2.2.2.2.2.1 rfl (by omega) (by decide) (((hT_o (by omega) (by omega)).trans hv)) ?_
      refine Go_istore_n (pc' := 22) (lv' := [.ref _, .ref _, .int _, .int _]) dX8_judge_21 rfl rfl (Nat.le_of_ble_eq_true rfl) rfl rfl ?_
      refine Go_iload_n (pc' := 23) dX8_judge_22 rfl rfl rfl ?_
      refine Go_sipush (v := iZ 10000) (pc' := 26) dX8_judge_23 rfl (by decide) ?_
      refine Go_icmp_geY (tgt := 37) (pc' := 29) dX8_judge_26 (by decide) rfl (by first | exact ⟨i_lo _, i_hi _⟩ | omega) (by first | exact ⟨i_lo _, i_hi _⟩ | omega) (fun c26 => ?_) (fun c26 => by exfalso; omega)
      refine Go_iload_n (pc' := 38) dX8_judge_37 rfl rfl rfl ?_
      refine Go_sipush (v := iZ 20000) (pc' := 41) dX8_judge_38 rfl (by decide) ?_
      refine Go_icmp_geY (tgt := 57) (pc' := 44) dX8_judge_41 (by decide) rfl (by first | exact ⟨i_lo _, i_hi _⟩ | omega) (by first | exact ⟨i_lo _, i_hi _⟩ | omega) (fun c41 => by exfalso; omega) (fun c41 => ?_)
      refine Go_aload_n (pc' := 45) dX8_judge_44 rfl rfl rfl ?_
      refine Go_iload_n (pc' := 46) dX8_judge_45 rfl rfl rfl ?_
      refine Go_sipush (v := iZ 10000) (pc' := 49) dX8_judge_46 rfl (by decide) ?_
      refine Go_isub (pc' := 50) dX8_judge_49 rfl ?_
      rw [show (iZ 10142 - iZ 10000 : Int32) = iZ 142 from by decide]
      refine Go_aload_n (pc' := 51) dX8_judge_50 rfl rfl rfl ?_
      refine Go_callV_v (pc' := 54) (As := [.int _, .ref _]) (st := []) dX8_judge_51 rfl ok_X8_operate km_RX8_35 QP.2.1 QP.1 ⟨_, _, rfl⟩ rfl (Nat.le_of_ble_eq_true rfl) rfl rfl rfl (Nat.le_of_ble_eq_true rfl) (Nat.lt_succ_self _) ?_
      refine s_oper142 QP hn hl hs S hF hq (fun u9 n9 w1 w2 w3 => ?_)
      refine ⟨rfl, ?_⟩
      refine Go_goto (tgt := 70) dX8_judge_54 (by decide) ?_
      refine Go_iincZ (pc' := 73) (lv' := [.ref _, .ref _, .int _, _]) dX8_judge_70 rfl rfl (Nat.le_of_ble_eq_true rfl) rfl rfl ?_
      refine Go_goto (tgt := 7) dX8_judge_73 (by decide) ?_
      exact ih (i + 1) _ _ _ _ (by omega) w1 w2 w3 hk
    · rw [jx_c (by omega)] at hk
      rw [hx] at hk hv
      refine Go_iload_n (pc' := 8) dX8_judge_7 rfl rfl rfl ?_
      refine Go_aload_n (pc' := 9) dX8_judge_8 rfl rfl rfl ?_
      refine Go_getIv (v := (iZ (L : Int))) (pc' := 12) dX8_judge_9 rfl kf_RX8_18 (by decide) (by decide) rfl QP.1 QP.2.1 ((hT_o (by omega) (by omega)).trans e1) ?_
      refine Go_icmp_geY (tgt := 76) (pc' := 15) dX8_judge_12 (by decide) rfl (by first | exact ⟨i_lo _, i_hi _⟩ | omega) (by first | exact ⟨i_lo _, i_hi _⟩ | omega) (fun c12 => by exfalso; omega) (fun c12 => ?_)
      refine Go_aload_n (pc' := 16) dX8_judge_15 rfl rfl rfl ?_
      refine Go_getRs (pc' := 19) dX8_judge_16 rfl kf_RX8_9 (by decide) (by decide) rfl QP.1 QP.2.1 QP.2.2.1 ?_
      refine Go_iload_n (pc' := 20) dX8_judge_19 rfl rfl rfl ?_
      refine Go_ialoadZ (n := 600) (k := i) (v := (iZ 10143)) (pc' := 21) dX8_judge_20 rfl QP.2.2.2.2.1 QP.2.2.2.2.2.1 rfl (by omega) (by decide) (((hT_o (by omega) (by omega)).trans hv)) ?_
      refine Go_istore_n (pc' := 22) (lv' := [.ref _, .ref _, .int _, .int _]) dX8_judge_21 rfl rfl (Nat.le_of_ble_eq_true rfl) rfl rfl ?_
      refine Go_iload_n (pc' := 23) dX8_judge_22 rfl rfl rfl ?_
      refine Go_sipush (v := iZ 10000) (pc' := 26) dX8_judge_23 rfl (by decide) ?_
      refine Go_icmp_geY (tgt := 37) (pc' := 29) dX8_judge_26 (by decide) rfl (by first | exact ⟨i_lo _, i_hi _⟩ | omega) (by first | exact ⟨i_lo _, i_hi _⟩ | omega) (fun c26 => ?_) (fun c26 => by exfalso; omega)
      refine Go_iload_n (pc' := 38) dX8_judge_37 rfl rfl rfl ?_
      refine Go_sipush (v := iZ 20000) (pc' := 41) dX8_judge_38 rfl (by decide) ?_
      refine Go_icmp_geY (tgt := 57) (pc' := 44) dX8_judge_41 (by decide) rfl (by first | exact ⟨i_lo _, i_hi _⟩ | omega) (by first | exact ⟨i_lo _, i_hi _⟩ | omega) (fun c41 => by exfalso; omega) (fun c41 => ?_)
      refine Go_aload_n (pc' := 45) dX8_judge_44 rfl rfl rfl ?_
      refine Go_iload_n (pc' := 46) dX8_judge_45 rfl rfl rfl ?_
      refine Go_sipush (v := iZ 10000) (pc' := 49) dX8_judge_46 rfl (by decide) ?_
      refine Go_isub (pc' := 50) dX8_judge_49 rfl ?_
      rw [show (iZ 10143 - iZ 10000 : Int32) = iZ 143 from by decide]
      refine Go_aload_n (pc' := 51) dX8_judge_50 rfl rfl rfl ?_
      refine Go_callV_v (pc' := 54) (As := [.int _, .ref _]) (st := []) dX8_judge_51 rfl ok_X8_operate km_RX8_35 QP.2.1 QP.1 ⟨_, _, rfl⟩ rfl (Nat.le_of_ble_eq_true rfl) rfl rfl rfl (Nat.le_of_ble_eq_true rfl) (Nat.lt_succ_self _) ?_
      refine s_oper143 QP hn hl hs S hF hq (fun u9 n9 w1 w2 w3 => ?_)
      refine ⟨rfl, ?_⟩
      refine Go_goto (tgt := 70) dX8_judge_54 (by decide) ?_
      refine Go_iincZ (pc' := 73) (lv' := [.ref _, .ref _, .int _, _]) dX8_judge_70 rfl rfl (Nat.le_of_ble_eq_true rfl) rfl rfl ?_
      refine Go_goto (tgt := 7) dX8_judge_73 (by decide) ?_
      exact ih (i + 1) _ _ _ _ (by omega) w1 w2 w3 hk
    · rw [jx_c (by omega)] at hk
      rw [hx] at hk hv
      refine Go_iload_n (pc' := 8) dX8_judge_7 rfl rfl rfl ?_
      refine Go_aload_n (pc' := 9) dX8_judge_8 rfl rfl rfl ?_
      refine Go_getIv (v := (iZ (L : Int))) (pc' := 12) dX8_judge_9 rfl kf_RX8_18 (by decide) (by decide) rfl QP.1 QP.2.1 ((hT_o (by omega) (by omega)).trans e1) ?_
      refine Go_icmp_geY (tgt := 76) (pc' := 15) dX8_judge_12 (by decide) rfl (by first | exact ⟨i_lo _, i_hi _⟩ | omega) (by first | exact ⟨i_lo _, i_hi _⟩ | omega) (fun c12 => by exfalso; omega) (fun c12 => ?_)
      refine Go_aload_n (pc' := 16) dX8_judge_15 rfl rfl rfl ?_
      refine Go_getRs (pc' := 19) dX8_judge_16 rfl kf_RX8_9 (by decide) (by decide) rfl QP.1 QP.2.1 QP.2.2.1 ?_
      refine Go_iload_n (pc' := 20) dX8_judge_19 rfl rfl rfl ?_
      refine Go_ialoadZ (n := 600) (k := i) (v := (iZ 10145)) (pc' := 21) dX8_judge_20 rfl QP.2.2.2.2.1 QP.2.2.2.2.2.1 rfl (by omega) (by decide) (((hT_o (by omega) (by omega)).trans hv)) ?_
      refine Go_istore_n (pc' := 22) (lv' := [.ref _, .ref _, .int _, .int _]) dX8_judge_21 rfl rfl (Nat.le_of_ble_eq_true rfl) rfl rfl ?_
      refine Go_iload_n (pc' := 23) dX8_judge_22 rfl rfl rfl ?_
      refine Go_sipush (v := iZ 10000) (pc' := 26) dX8_judge_23 rfl (by decide) ?_
      refine Go_icmp_geY (tgt := 37) (pc' := 29) dX8_judge_26 (by decide) rfl (by first | exact ⟨i_lo _, i_hi _⟩ | omega) (by first | exact ⟨i_lo _, i_hi _⟩ | omega) (fun c26 => ?_) (fun c26 => by exfalso; omega)
      refine Go_iload_n (pc' := 38) dX8_judge_37 rfl rfl rfl ?_
      refine Go_sipush (v := iZ 20000) (pc' := 41) dX8_judge_38 rfl (by decide) ?_
      refine Go_icmp_geY (tgt := 57) (pc' := 44) dX8_judge_41 (by decide) rfl (by first | exact ⟨i_lo _, i_hi _⟩ | omega) (by first | exact ⟨i_lo _, i_hi _⟩ | omega) (fun c41 => by exfalso; omega) (fun c41 => ?_)
      refine Go_aload_n (pc' := 45) dX8_judge_44 rfl rfl rfl ?_
      refine Go_iload_n (pc' := 46) dX8_judge_45 rfl rfl rfl ?_
      refine Go_sipush (v := iZ 10000) (pc' := 49) dX8_judge_46 rfl (by decide) ?_
      refine Go_isub (pc' := 50) dX8_judge_49 rfl ?_
      rw [show (iZ 10145 - iZ 10000 : Int32) = iZ 145 from by decide]
      refine Go_aload_n (pc' := 51) dX8_judge_50 rfl rfl rfl ?_
      refine Go_callV_v (pc' := 54) (As := [.int _, .ref _]) (st := []) dX8_judge_51 rfl ok_X8_operate km_RX8_35 QP.2.1 QP.1 ⟨_, _, rfl⟩ rfl (Nat.le_of_ble_eq_true rfl) rfl rfl rfl (Nat.le_of_ble_eq_true rfl) (Nat.lt_succ_self _) ?_
      refine s_oper145 QP hn hl hs S hF hq (fun u9 n9 w1 w2 w3 => ?_)
      refine ⟨rfl, ?_⟩
      refine Go_goto (tgt := 70) dX8_judge_54 (by decide) ?_
      refine Go_iincZ (pc' := 73) (lv' := [.ref _, .ref _, .int _, _]) dX8_judge_70 rfl rfl (Nat.le_of_ble_eq_true rfl) rfl rfl ?_
      refine Go_goto (tgt := 7) dX8_judge_73 (by decide) ?_
      exact ih (i + 1) _ _ _ _ (by omega) w1 w2 w3 hk
    · rw [jx_c (by omega)] at hk
      rw [hx] at hk hv
      refine Go_iload_n (pc' := 8) dX8_judge_7 rfl rfl rfl ?_
      refine Go_aload_n (pc' := 9) dX8_judge_8 rfl rfl rfl ?_
      refine Go_getIv (v := (iZ (L : Int))) (pc' := 12) dX8_judge_9 rfl kf_RX8_18 (by decide) (by decide) rfl QP.1 QP.2.1 ((hT_o (by omega) (by omega)).trans e1) ?_
      refine Go_icmp_geY (tgt := 76) (pc' := 15) dX8_judge_12 (by decide) rfl (by first | exact ⟨i_lo _, i_hi _⟩ | omega) (by first | exact ⟨i_lo _, i_hi _⟩ | omega) (fun c12 => by exfalso; omega) (fun c12 => ?_)
      refine Go_aload_n (pc' := 16) dX8_judge_15 rfl rfl rfl ?_
      refine Go_getRs (pc' := 19) dX8_judge_16 rfl kf_RX8_9 (by decide) (by decide) rfl QP.1 QP.2.1 QP.2.2.1 ?_
      refine Go_iload_n (pc' := 20) dX8_judge_19 rfl rfl rfl ?_
      refine Go_ialoadZ (n := 600) (k := i) (v := (iZ 10147)) (pc' := 21) dX8_judge_20 rfl QP.2.2.2.2.1 QP.2.2.2.2.2.1 rfl (by omega) (by decide) (((hT_o (by omega) (by omega)).trans hv)) ?_
      refine Go_istore_n (pc' := 22) (lv' := [.ref _, .ref _, .int _, .int _]) dX8_judge_21 rfl rfl (Nat.le_of_ble_eq_true rfl) rfl rfl ?_
      refine Go_iload_n (pc' := 23) dX8_judge_22 rfl rfl rfl ?_
      refine Go_sipush (v := iZ 10000) (pc' := 26) dX8_judge_23 rfl (by decide) ?_
      refine Go_icmp_geY (tgt := 37) (pc' := 29) dX8_judge_26 (by decide) rfl (by first | exact ⟨i_lo _, i_hi _⟩ | omega) (by first | exact ⟨i_lo _, i_hi _⟩ | omega) (fun c26 => ?_) (fun c26 => by exfalso; omega)
      refine Go_iload_n (pc' := 38) dX8_judge_37 rfl rfl rfl ?_
      refine Go_sipush (v := iZ 20000) (pc' := 41) dX8_judge_38 rfl (by decide) ?_
      refine Go_icmp_geY (tgt := 57) (pc' := 44) dX8_judge_41 (by decide) rfl (by first | exact ⟨i_lo _, i_hi _⟩ | omega) (by first | exact ⟨i_lo _, i_hi _⟩ | omega) (fun c41 => by exfalso; omega) (fun c41 => ?_)
      refine Go_aload_n (pc' := 45) dX8_judge_44 rfl rfl rfl ?_
      refine Go_iload_n (pc' := 46) dX8_judge_45 rfl rfl rfl ?_
      refine Go_sipush (v := iZ 10000) (pc' := 49) dX8_judge_46 rfl (by decide) ?_
      refine Go_isub (pc' := 50) dX8_judge_49 rfl ?_
      rw [show (iZ 10147 - iZ 10000 : Int32) = iZ 147 from by decide]
      refine Go_aload_n (pc' := 51) dX8_judge_50 rfl rfl rfl ?_
      refine Go_callV_v (pc' := 54) (As := [.int _, .ref _]) (st := []) dX8_judge_51 rfl ok_X8_operate km_RX8_35 QP.2.1 QP.1 ⟨_, _, rfl⟩ rfl (Nat.le_of_ble_eq_true rfl) rfl rfl rfl (Nat.le_of_ble_eq_true rfl) (Nat.lt_succ_self _) ?_
      refine s_oper147 QP hn hl hs S hF hq (fun u9 n9 w1 w2 w3 => ?_)
      refine ⟨rfl, ?_⟩
      refine Go_goto (tgt := 70) dX8_judge_54 (by decide) ?_
      refine Go_iincZ (pc' := 73) (lv' := [.ref _, .ref _, .int _, _]) dX8_judge_70 rfl rfl (Nat.le_of_ble_eq_true rfl) rfl rfl ?_
      refine Go_goto (tgt := 7) dX8_judge_73 (by decide) ?_
      exact ih (i + 1) _ _ _ _ (by omega) w1 w2 w3 hk
    · rw [jx_c (by omega)] at hk
      rw [hx] at hk hv
      refine Go_iload_n (pc' := 8) dX8_judge_7 rfl rfl rfl ?_
      refine Go_aload_n (pc' := 9) dX8_judge_8 rfl rfl rfl ?_
      refine Go_getIv (v := (iZ (L : Int))) (pc' := 12) dX8_judge_9 rfl kf_RX8_18 (by decide) (by decide) rfl QP.1 QP.2.1 ((hT_o (by omega) (by omega)).trans e1) ?_
      refine Go_icmp_geY (tgt := 76) (pc' := 15) dX8_judge_12 (by decide) rfl (by first | exact ⟨i_lo _, i_hi _⟩ | omega) (by first | exact ⟨i_lo _, i_hi _⟩ | omega) (fun c12 => by exfalso; omega) (fun c12 => ?_)
      refine Go_aload_n (pc' := 16) dX8_judge_15 rfl rfl rfl ?_
      refine Go_getRs (pc' := 19) dX8_judge_16 rfl kf_RX8_9 (by decide) (by decide) rfl QP.1 QP.2.1 QP.2.2.1 ?_
      refine Go_iload_n (pc' := 20) dX8_judge_19 rfl rfl rfl ?_
      refine Go_ialoadZ (n := 600) (k := i) (v := (iZ 10160)) (pc' := 21) dX8_judge_20 rfl QP.2.2.2.2.1 QP.2.2.2.2.2.1 rfl (by omega) (by decide) (((hT_o (by omega) (by omega)).trans hv)) ?_
      refine Go_istore_n (pc' := 22) (lv' := [.ref _, .ref _, .int _, .int _]) dX8_judge_21 rfl rfl (Nat.le_of_ble_eq_true rfl) rfl rfl ?_
      refine Go_iload_n (pc' := 23) dX8_judge_22 rfl rfl rfl ?_
      refine Go_sipush (v := iZ 10000) (pc' := 26) dX8_judge_23 rfl (by decide) ?_
      refine Go_icmp_geY (tgt := 37) (pc' := 29) dX8_judge_26 (by decide) rfl (by first | exact ⟨i_lo _, i_hi _⟩ | omega) (by first | exact ⟨i_lo _, i_hi _⟩ | omega) (fun c26 => ?_) (fun c26 => by exfalso; omega)
      refine Go_iload_n (pc' := 38) dX8_judge_37 rfl rfl rfl ?_
      refine Go_sipush (v := iZ 20000) (pc' := 41) dX8_judge_38 rfl (by decide) ?_
      refine Go_icmp_geY (tgt := 57) (pc' := 44) dX8_judge_41 (by decide) rfl (by first | exact ⟨i_lo _, i_hi _⟩ | omega) (by first | exact ⟨i_lo _, i_hi _⟩ | omega) (fun c41 => by exfalso; omega) (fun c41 => ?_)
      refine Go_aload_n (pc' := 45) dX8_judge_44 rfl rfl rfl ?_
      refine Go_iload_n (pc' := 46) dX8_judge_45 rfl rfl rfl ?_
      refine Go_sipush (v := iZ 10000) (pc' := 49) dX8_judge_46 rfl (by decide) ?_
      refine Go_isub (pc' := 50) dX8_judge_49 rfl ?_
      rw [show (iZ 10160 - iZ 10000 : Int32) = iZ 160 from by decide]
      refine Go_aload_n (pc' := 51) dX8_judge_50 rfl rfl rfl ?_
      refine Go_callV_v (pc' := 54) (As := [.int _, .ref _]) (st := []) dX8_judge_51 rfl ok_X8_operate km_RX8_35 QP.2.1 QP.1 ⟨_, _, rfl⟩ rfl (Nat.le_of_ble_eq_true rfl) rfl rfl rfl (Nat.le_of_ble_eq_true rfl) (Nat.lt_succ_self _) ?_
      refine s_oper160 QP hn hl hs S hF hq (fun u9 n9 w1 w2 w3 => ?_)
      refine ⟨rfl, ?_⟩
      refine Go_goto (tgt := 70) dX8_judge_54 (by decide) ?_
      refine Go_iincZ (pc' := 73) (lv' := [.ref _, .ref _, .int _, _]) dX8_judge_70 rfl rfl (Nat.le_of_ble_eq_true rfl) rfl rfl ?_
      refine Go_goto (tgt := 7) dX8_judge_73 (by decide) ?_
      exact ih (i + 1) _ _ _ _ (by omega) w1 w2 w3 hk
    · rw [jx_c (by omega)] at hk
      rw [hx] at hk hv
      refine Go_iload_n (pc' := 8) dX8_judge_7 rfl rfl rfl ?_
      refine Go_aload_n (pc' := 9) dX8_judge_8 rfl rfl rfl ?_
      refine Go_getIv (v := (iZ (L : Int))) (pc' := 12) dX8_judge_9 rfl kf_RX8_18 (by decide) (by decide) rfl QP.1 QP.2.1 ((hT_o (by omega) (by omega)).trans e1) ?_
      refine Go_icmp_geY (tgt := 76) (pc' := 15) dX8_judge_12 (by decide) rfl (by first | exact ⟨i_lo _, i_hi _⟩ | omega) (by first | exact ⟨i_lo _, i_hi _⟩ | omega) (fun c12 => by exfalso; omega) (fun c12 => ?_)
      refine Go_aload_n (pc' := 16) dX8_judge_15 rfl rfl rfl ?_
      refine Go_getRs (pc' := 19) dX8_judge_16 rfl kf_RX8_9 (by decide) (by decide) rfl QP.1 QP.2.1 QP.2.2.1 ?_
      refine Go_iload_n (pc' := 20) dX8_judge_19 rfl rfl rfl ?_
      refine Go_ialoadZ (n := 600) (k := i) (v := (iZ 10161)) (pc' := 21) dX8_judge_20 rfl QP.2.2.2.2.1 QP.2.2.2.2.2.1 rfl (by omega) (by decide) (((hT_o (by omega) (by omega)).trans hv)) ?_
      refine Go_istore_n (pc' := 22) (lv' := [.ref _, .ref _, .int _, .int _]) dX8_judge_21 rfl rfl (Nat.le_of_ble_eq_true rfl) rfl rfl ?_
      refine Go_iload_n (pc' := 23) dX8_judge_22 rfl rfl rfl ?_
      refine Go_sipush (v := iZ 10000) (pc' := 26) dX8_judge_23 rfl (by decide) ?_
      refine Go_icmp_geY (tgt := 37) (pc' := 29) dX8_judge_26 (by decide) rfl (by first | exact ⟨i_lo _, i_hi _⟩ | omega) (by first | exact ⟨i_lo _, i_hi _⟩ | omega) (fun c26 => ?_) (fun c26 => by exfalso; omega)
      refine Go_iload_n (pc' := 38) dX8_judge_37 rfl rfl rfl ?_
      refine Go_sipush (v := iZ 20000) (pc' := 41) dX8_judge_38 rfl (by decide) ?_
      refine Go_icmp_geY (tgt := 57) (pc' := 44) dX8_judge_41 (by decide) rfl (by first | exact ⟨i_lo _, i_hi _⟩ | omega) (by first | exact ⟨i_lo _, i_hi _⟩ | omega) (fun c41 => by exfalso; omega) (fun c41 => ?_)
      refine Go_aload_n (pc' := 45) dX8_judge_44 rfl rfl rfl ?_
      refine Go_iload_n (pc' := 46) dX8_judge_45 rfl rfl rfl ?_
      refine Go_sipush (v := iZ 10000) (pc' := 49) dX8_judge_46 rfl (by decide) ?_
      refine Go_isub (pc' := 50) dX8_judge_49 rfl ?_
      rw [show (iZ 10161 - iZ 10000 : Int32) = iZ 161 from by decide]
      refine Go_aload_n (pc' := 51) dX8_judge_50 rfl rfl rfl ?_
      refine Go_callV_v (pc' := 54) (As := [.int _, .ref _]) (st := []) dX8_judge_51 rfl ok_X8_operate km_RX8_35 QP.2.1 QP.1 ⟨_, _, rfl⟩ rfl (Nat.le_of_ble_eq_true rfl) rfl rfl rfl (Nat.le_of_ble_eq_true rfl) (Nat.lt_succ_self _) ?_
      refine s_oper161 QP hn hl hs S hF hq (fun u9 n9 w1 w2 w3 => ?_)
      refine ⟨rfl, ?_⟩
      refine Go_goto (tgt := 70) dX8_judge_54 (by decide) ?_
      refine Go_iincZ (pc' := 73) (lv' := [.ref _, .ref _, .int _, _]) dX8_judge_70 rfl rfl (Nat.le_of_ble_eq_true rfl) rfl rfl ?_
      refine Go_goto (tgt := 7) dX8_judge_73 (by decide) ?_
      exact ih (i + 1) _ _ _ _ (by omega) w1 w2 w3 hk
    · rw [jx_c (by omega)] at hk
      rw [hx] at hk hv
      refine Go_iload_n (pc' := 8) dX8_judge_7 rfl rfl rfl ?_
      refine Go_aload_n (pc' := 9) dX8_judge_8 rfl rfl rfl ?_
      refine Go_getIv (v := (iZ (L : Int))) (pc' := 12) dX8_judge_9 rfl kf_RX8_18 (by decide) (by decide) rfl QP.1 QP.2.1 ((hT_o (by omega) (by omega)).trans e1) ?_
      refine Go_icmp_geY (tgt := 76) (pc' := 15) dX8_judge_12 (by decide) rfl (by first | exact ⟨i_lo _, i_hi _⟩ | omega) (by first | exact ⟨i_lo _, i_hi _⟩ | omega) (fun c12 => by exfalso; omega) (fun c12 => ?_)
      refine Go_aload_n (pc' := 16) dX8_judge_15 rfl rfl rfl ?_
      refine Go_getRs (pc' := 19) dX8_judge_16 rfl kf_RX8_9 (by decide) (by decide) rfl QP.1 QP.2.1 QP.2.2.1 ?_
      refine Go_iload_n (pc' := 20) dX8_judge_19 rfl rfl rfl ?_
      refine Go_ialoadZ (n := 600) (k := i) (v := (iZ 10162)) (pc' := 21) dX8_judge_20 rfl QP.2.2.2.2.1 QP.2.2.2.2.2.1 rfl (by omega) (by decide) (((hT_o (by omega) (by omega)).trans hv)) ?_
      refine Go_istore_n (pc' := 22) (lv' := [.ref _, .ref _, .int _, .int _]) dX8_judge_21 rfl rfl (Nat.le_of_ble_eq_true rfl) rfl rfl ?_
      refine Go_iload_n (pc' := 23) dX8_judge_22 rfl rfl rfl ?_
      refine Go_sipush (v := iZ 10000) (pc' := 26) dX8_judge_23 rfl (by decide) ?_
      refine Go_icmp_geY (tgt := 37) (pc' := 29) dX8_judge_26 (by decide) rfl (by first | exact ⟨i_lo _, i_hi _⟩ | omega) (by first | exact ⟨i_lo _, i_hi _⟩ | omega) (fun c26 => ?_) (fun c26 => by exfalso; omega)
      refine Go_iload_n (pc' := 38) dX8_judge_37 rfl rfl rfl ?_
      refine Go_sipush (v := iZ 20000) (pc' := 41) dX8_judge_38 rfl (by decide) ?_
      refine Go_icmp_geY (tgt := 57) (pc' := 44) dX8_judge_41 (by decide) rfl (by first | exact ⟨i_lo _, i_hi _⟩ | omega) (by first | exact ⟨i_lo _, i_hi _⟩ | omega) (fun c41 => by exfalso; omega) (fun c41 => ?_)
      refine Go_aload_n (pc' := 45) dX8_judge_44 rfl rfl rfl ?_
      refine Go_iload_n (pc' := 46) dX8_judge_45 rfl rfl rfl ?_
      refine Go_sipush (v := iZ 10000) (pc' := 49) dX8_judge_46 rfl (by decide) ?_
      refine Go_isub (pc' := 50) dX8_judge_49 rfl ?_
      rw [show (iZ 10162 - iZ 10000 : Int32) = iZ 162 from by decide]
      refine Go_aload_n (pc' := 51) dX8_judge_50 rfl rfl rfl ?_
      refine Go_callV_v (pc' := 54) (As := [.int _, .ref _]) (st := []) dX8_judge_51 rfl ok_X8_operate km_RX8_35 QP.2.1 QP.1 ⟨_, _, rfl⟩ rfl (Nat.le_of_ble_eq_true rfl) rfl rfl rfl (Nat.le_of_ble_eq_true rfl) (Nat.lt_succ_self _) ?_
      refine s_oper162 QP hn hl hs S hF hq (fun u9 n9 w1 w2 w3 => ?_)
      refine ⟨rfl, ?_⟩
      refine Go_goto (tgt := 70) dX8_judge_54 (by decide) ?_
      refine Go_iincZ (pc' := 73) (lv' := [.ref _, .ref _, .int _, _]) dX8_judge_70 rfl rfl (Nat.le_of_ble_eq_true rfl) rfl rfl ?_
      refine Go_goto (tgt := 7) dX8_judge_73 (by decide) ?_
      exact ih (i + 1) _ _ _ _ (by omega) w1 w2 w3 hk
    · refine Go_iload_n (pc' := 8) dX8_judge_7 rfl rfl rfl ?_
      refine Go_aload_n (pc' := 9) dX8_judge_8 rfl rfl rfl ?_
      refine Go_getIv (v := (iZ (L : Int))) (pc' := 12) dX8_judge_9 rfl kf_RX8_18 (by decide) (by decide) rfl QP.1 QP.2.1 ((hT_o (by omega) (by omega)).trans e1) ?_
      refine Go_icmp_geY (tgt := 76) (pc' := 15) dX8_judge_12 (by decide) rfl (by first | exact ⟨i_lo _, i_hi _⟩ | omega) (by first | exact ⟨i_lo _, i_hi _⟩ | omega) (fun c12 => by exfalso; omega) (fun c12 => ?_)
      refine Go_aload_n (pc' := 16) dX8_judge_15 rfl rfl rfl ?_
      refine Go_getRs (pc' := 19) dX8_judge_16 rfl kf_RX8_9 (by decide) (by decide) rfl QP.1 QP.2.1 QP.2.2.1 ?_
      refine Go_iload_n (pc' := 20) dX8_judge_19 rfl rfl rfl ?_
      refine Go_ialoadZ (n := 600) (k := i) (v := (iZ (c i))) (pc' := 21) dX8_judge_20 rfl QP.2.2.2.2.1 QP.2.2.2.2.2.1 rfl (by omega) (by decide) (((hT_o (by omega) (by omega)).trans hv)) ?_
      refine Go_istore_n (pc' := 22) (lv' := [.ref _, .ref _, .int _, .int _]) dX8_judge_21 rfl rfl (Nat.le_of_ble_eq_true rfl) rfl rfl ?_
      refine Go_iload_n (pc' := 23) dX8_judge_22 rfl rfl rfl ?_
      refine Go_sipush (v := iZ 10000) (pc' := 26) dX8_judge_23 rfl (by decide) ?_
      refine Go_icmp_geY (tgt := 37) (pc' := 29) dX8_judge_26 (by decide) rfl (by first | exact ⟨i_lo _, i_hi _⟩ | omega) (by first | exact ⟨i_lo _, i_hi _⟩ | omega) (fun c26 => ?_) (fun c26 => by exfalso; omega)
      refine Go_iload_n (pc' := 38) dX8_judge_37 rfl rfl rfl ?_
      refine Go_sipush (v := iZ 20000) (pc' := 41) dX8_judge_38 rfl (by decide) ?_
      refine Go_icmp_geY (tgt := 57) (pc' := 44) dX8_judge_41 (by decide) rfl (by first | exact ⟨i_lo _, i_hi _⟩ | omega) (by first | exact ⟨i_lo _, i_hi _⟩ | omega) (fun c41 => ?_) (fun c41 => by exfalso; omega)
      refine Go_aload_n (pc' := 58) dX8_judge_57 rfl rfl rfl ?_
      refine Go_callV_i (pc' := 61) (As := []) (st := []) dX8_judge_58 rfl ok_X8_pop km_RX8_39 QP.2.1 QP.1 ⟨_, _, rfl⟩ rfl (Nat.le_of_ble_eq_true rfl) rfl rfl rfl (Nat.le_of_ble_eq_true rfl) (Nat.lt_succ_self _) ?_
      refine s_pop QP hn hl hs (fun u9 n9 w1 w2 w3 => ?_)
      refine ⟨_, rfl, ?_⟩
      refine Go_if_eq (tgt := 70) (pc' := 64) dX8_judge_61 (by decide) rfl (fun c61 => ?_) (fun c61 => ?_)
      · rw [jx_v0 (by omega) c61] at hk
        refine Go_iincZ (pc' := 73) (lv' := [.ref _, .ref _, .int _, .int _]) dX8_judge_70 rfl rfl (Nat.le_of_ble_eq_true rfl) rfl rfl ?_
        refine Go_goto (tgt := 7) dX8_judge_73 (by decide) ?_
        exact ih (i + 1) _ _ _ _ (by omega) w1 w2 w3 hk
      · rw [jx_v1 (by omega) c61] at hk
        refine Go_iload_n (pc' := 65) dX8_judge_64 rfl rfl rfl ?_
        refine Go_sipush (v := iZ 20000) (pc' := 68) dX8_judge_65 rfl (by decide) ?_
        refine Go_isubZ (pc' := 69) dX8_judge_68 rfl ?_
        refine Go_ireturn (ty := .int) dX8_judge_69 rfl rfl ?_
        exact hk _ _
set_option maxRecDepth 20000 in
set_option maxHeartbeats 1000000 in
theorem s_judge {G : GC} {d mc ms : Nat} {h : HS} {K : Option Value → HS → Prop} {q L : Nat} (S : Shp h) (QP : QPr h q) (hq : q = 74 ∨ q = 77) {F : Nat → Int32} (hF : ∀ k, 1 ≤ k → k ≤ 7 → vi h 70 (k - 1) = F k) {c : Nat → Int} (hL : L ≤ 600) (e1 : vi h q 1 = iZ (L : Int)) (hc : ∀ i, i < L → vi h (q + 1) i = iZ (c i) ∧ cod (c i)) (hk : ∀ (u' : Nat → Int32) (n' : Int), K (some (.int (iZ (jx c F L 0 [])))) (hT h (q + 2) q 4 u' n')) : Go G (d + 2) mc ms M_X8_judge 0 [.ref q, .ref 69, un, un] [] h K := by
  refine Go_aload_n (pc' := 1) dX8_judge_0 rfl rfl rfl ?_
  refine Go_iconst (v := iZ 0) (pc' := 2) dX8_judge_1 rfl (by decide) ?_
  refine Go_putI (pc' := 5) dX8_judge_2 rfl kf_RX8_29 (by decide) (by decide) rfl QP.1 QP.2.1 (Or.inl rfl) rfl rfl ?_
  refine Go_iconst (v := iZ 0) (pc' := 6) dX8_judge_5 rfl (by decide) ?_
  refine Go_istore_n (pc' := 7) (lv' := [.ref _, .ref _, .int _, un]) dX8_judge_6 rfl rfl (Nat.le_of_ble_eq_true rfl) rfl rfl ?_
  have e : (wI h q 4 (iZ 0)) = hT h (q + 2) q 4 (vi h (q + 2)) 0 := by unfold hT; rw [setR_self]
  rw [e]
  exact jg_loop S QP hq hF hL e1 hc L 0 [] _ 0 _ (Nat.zero_add L) rfl (by simp) (fun k hk => by simp at hk) hk
