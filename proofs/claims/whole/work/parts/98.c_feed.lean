/-! pair: feed -/
/-- row i is u, and field (o, k) is n -/
def hT (h : HS) (i o k : Nat) (u : Nat → Int32) (n : Int) : HS := wI (setR h i u) o k (iZ n)
theorem hT_step {h : HS} {i o k : Nat} {u : Nat → Int32} {n n' : Int} {t : Nat} {v : Int32} (e : i ≠ o) : wI (wI (hT h i o k u n) i t v) o k (iZ n') = hT h i o k (upd u t v) n' := by
  unfold hT wI setR upd
  refine Prod.ext rfl (Prod.ext rfl (Prod.ext ?_ rfl))
  funext a b
  simp only
  by_cases c1 : a = o
  · have c2 : ¬ a = i := fun q => e (q.symm.trans c1)
    subst c1
    simp [c2]
    by_cases c3 : b = k
    · simp [c3]
    · simp [c3]
  · by_cases c2 : a = i
    · subst c2
      simp [c1]
    · simp [c1, c2]
theorem hT_n {h : HS} {i o k : Nat} {u : Nat → Int32} {n : Int} : vi (hT h i o k u n) o k = iZ n := vi_same
theorem hT_o {h : HS} {i o k a b : Nat} {u : Nat → Int32} {n : Int} (e1 : a ≠ i) (e2 : a ≠ o ∨ b ≠ k) : vi (hT h i o k u n) a b = vi h a b := by
  unfold hT; rw [vi_skip (by omega), viS e1]
theorem hT_r {h : HS} {i o k b : Nat} {u : Nat → Int32} {n : Int} (e : i ≠ o) : vi (hT h i o k u n) i b = u b := by
  unfold hT; rw [vi_skip (by omega), vi_setR]
theorem hT_same {h : HS} {i o k : Nat} {n : Int} (e : vi h o k = iZ n) (ne : i ≠ o) : hT h i o k (vi h i) n = h := by
  unfold hT; rw [setR_self]
  unfold wI
  refine Prod.ext rfl (Prod.ext rfl (Prod.ext ?_ rfl))
  funext a b
  simp only
  by_cases c : a = o ∧ b = k
  · rw [if_pos c, c.1, c.2]; exact e.symm
  · rw [if_neg c]
theorem SameOn.hT {P : Nat → Nat → Bool} {h : HS} {i o k : Nat} {u : Nat → Int32} {n : Int} (e1 : ∀ k, P i k = false) (e2 : P o k = false) : SameOn P h (hT h i o k u n) := (SameOn.setR e1).wI e2
/-- the byte of x at shift s -/
def byt (x : Int32) (s : Int) : Int32 := (x >>> (iZ s &&& 31)) &&& iZ 255
theorem b255 : ∀ i, i < 32 → 8 ≤ i → (255#32).getLsbD i = false := by decide
theorem byt_aux (y : BitVec 32) (s : Nat) (hs : s ≤ 24) : (y >>> s) &&& 255#32 = (y.sshiftRight s) &&& 255#32 := by
  apply BitVec.eq_of_getLsbD_eq
  intro i hi
  rw [BitVec.getLsbD_and, BitVec.getLsbD_and, BitVec.getLsbD_ushiftRight, BitVec.getLsbD_sshiftRight]
  by_cases c : i < 8
  · have c1 : ¬ 32 ≤ i := by omega
    have c2 : s + i < 32 := by omega
    simp [c1, c2]
  · rw [b255 i hi (by omega)]; simp
theorem byt_u {x : Int32} {s : Int} (hs : s = 24 ∨ s = 16 ∨ s = 8 ∨ s = 0) : ((x.toUInt32 >>> ((iZ s).toUInt32 &&& Int32.toUInt32 31)).toInt32) &&& iZ 255 = byt x s := by
  unfold byt
  apply Int32.toBitVec_inj.1
  rcases hs with rfl | rfl | rfl | rfl
  · exact byt_aux x.toBitVec 24 (by omega)
  · exact byt_aux x.toBitVec 16 (by omega)
  · exact byt_aux x.toBitVec 8 (by omega)
  · exact byt_aux x.toBitVec 0 (by omega)
theorem and255 (x : Int32) : rg (x &&& iZ 255) 0 255 := by
  have e : (x &&& iZ 255).toBitVec = x.toBitVec &&& 255#32 := rfl
  have l : (x.toBitVec &&& 255#32).toNat ≤ 255 := by rw [BitVec.toNat_and]; exact Nat.and_le_right
  have z : (x &&& iZ 255).toInt = ((x.toBitVec &&& 255#32).toNat : Int) := by
    show (x &&& iZ 255).toBitVec.toInt = _
    rw [e, BitVec.toInt_eq_toNat_of_lt (by omega)]
  unfold rg; rw [z]; omega
theorem byt_r (x : Int32) (s : Int) : rg (byt x s) 0 255 := and255 _
set_option maxRecDepth 20000 in
set_option maxHeartbeats 1000000 in
theorem ap_step {G : GC} {d mc ms : Nat} {h : HS} {K : Option Value → HS → Prop} {u : Nat → Int32} {n s : Int} {x : Int32} {t : Nat} (S : Shp h) (hs : s = 24 ∨ s = 16 ∨ s = 8 ∨ s = 0) (ht : n = (t : Int)) (hn : t < 600) (hx : Go G d mc ms M_X9_append 3 [.ref 71, .int x, .int (iZ (s + (-8)))] [] (hT h 72 71 1 (upd u t (byt x s)) (n + 1)) K) : Go G d mc ms M_X9_append 3 [.ref 71, .int x, .int (iZ s)] [] (hT h 72 71 1 u n) K := by
  refine Go_iload_n (pc' := 4) dX9_append_3 rfl rfl rfl ?_
  refine Go_if_ltY (tgt := 51) (pc' := 7) dX9_append_4 (by decide) rfl (by first | exact ⟨i_lo _, i_hi _⟩ | omega) (fun c4 => by exfalso; omega) (fun c4 => ?_)
  refine Go_aload_n (pc' := 8) dX9_append_7 rfl rfl rfl ?_
  refine Go_getIv (v := (iZ n)) (pc' := 11) dX9_append_8 rfl kf_RX9_32 (by decide) (by decide) rfl (S.b 71 rfl rfl) (S.o 71 rfl rfl rfl) (hT_n) ?_
  refine Go_aload_n (pc' := 12) dX9_append_11 rfl rfl rfl ?_
  refine Go_getRs (pc' := 15) dX9_append_12 rfl kf_RX9_9 (by decide) (by decide) rfl (S.b 71 rfl rfl) (S.o 71 rfl rfl rfl) (S.r 71 0 rfl rfl rfl) ?_
  refine Go_alenZ (n := 600) (pc' := 16) dX9_append_15 rfl (S.b 72 rfl rfl) (S.k 72 rfl rfl rfl) (Or.inl rfl) ?_
  refine Go_icmp_geY (tgt := 51) (pc' := 19) dX9_append_16 (by decide) rfl (by first | exact ⟨i_lo _, i_hi _⟩ | omega) (by first | exact ⟨i_lo _, i_hi _⟩ | omega) (fun c16 => by exfalso; omega) (fun c16 => ?_)
  refine Go_aload_n (pc' := 20) dX9_append_19 rfl rfl rfl ?_
  refine Go_getRs (pc' := 23) dX9_append_20 rfl kf_RX9_9 (by decide) (by decide) rfl (S.b 71 rfl rfl) (S.o 71 rfl rfl rfl) (S.r 71 0 rfl rfl rfl) ?_
  refine Go_aload_n (pc' := 24) dX9_append_23 rfl rfl rfl ?_
  refine Go_getIv (v := (iZ n)) (pc' := 27) dX9_append_24 rfl kf_RX9_32 (by decide) (by decide) rfl (S.b 71 rfl rfl) (S.o 71 rfl rfl rfl) (hT_n) ?_
  refine Go_iload_n (pc' := 28) dX9_append_27 rfl rfl rfl ?_
  refine Go_iload_n (pc' := 29) dX9_append_28 rfl rfl rfl ?_
  refine Go_iushr (pc' := 30) dX9_append_29 rfl ?_
  refine Go_sipush (v := iZ 255) (pc' := 33) dX9_append_30 rfl (by decide) ?_
  refine Go_iand (pc' := 34) dX9_append_33 rfl ?_
  rw [byt_u hs]
  refine Go_iastoreZ (n := 600) (k := t) (pc' := 35) dX9_append_34 rfl (S.b 72 rfl rfl) (S.k 72 rfl rfl rfl) ht hn (by decide) ?_
  refine Go_aload_n (pc' := 36) dX9_append_35 rfl rfl rfl ?_
  refine Go_dup (pc' := 37) dX9_append_36 rfl rfl ?_
  refine Go_getIv (v := (iZ n)) (pc' := 40) dX9_append_37 rfl kf_RX9_32 (by decide) (by decide) rfl (S.b 71 rfl rfl) (S.o 71 rfl rfl rfl) ((vi_skip (Or.inl (by decide))).trans (hT_n)) ?_
  refine Go_iconst (v := iZ 1) (pc' := 41) dX9_append_40 rfl (by decide) ?_
  refine Go_iaddZ (pc' := 42) dX9_append_41 rfl ?_
  refine Go_putI (pc' := 45) dX9_append_42 rfl kf_RX9_32 (by decide) (by decide) rfl (S.b 71 rfl rfl) (S.o 71 rfl rfl rfl) (Or.inl rfl) rfl rfl ?_
  refine Go_iincZ (pc' := 48) (lv' := [.ref _, .int _, .int _]) dX9_append_45 rfl rfl (Nat.le_of_ble_eq_true rfl) rfl rfl ?_
  refine Go_goto (tgt := 3) dX9_append_48 (by decide) ?_
  rw [hT_step (by decide)]
  exact hx
set_option maxRecDepth 20000 in
set_option maxHeartbeats 1000000 in
theorem s_append {G : GC} {d mc ms : Nat} {h : HS} {K : Option Value → HS → Prop} {u : Nat → Int32} {n : Nat} {x : Int32} (S : Shp h) (hn : n ≤ 596) (hk : ∀ w : Nat → Int32, (∀ i, i < n → w i = u i) → w n = byt x 24 → w (n + 1) = byt x 16 → w (n + 2) = byt x 8 → w (n + 3) = byt x 0 → K none (hT h 72 71 1 w (n + 4))) : Go G d mc ms M_X9_append 0 [.ref 71, .int x, un] [] (hT h 72 71 1 u (n : Int)) K := by
  refine Go_bipush (v := iZ 24) (pc' := 2) dX9_append_0 rfl (by decide) ?_
  refine Go_istore_n (pc' := 3) (lv' := [.ref _, .int _, .int _]) dX9_append_2 rfl rfl (Nat.le_of_ble_eq_true rfl) rfl rfl ?_
  refine ap_step (t := n) S (by omega) rfl (by omega) ?_
  refine ap_step (t := n + 1) S (by omega) (by omega) (by omega) ?_
  refine ap_step (t := n + 2) S (by omega) (by omega) (by omega) ?_
  refine ap_step (t := n + 3) S (by omega) (by omega) (by omega) ?_
  refine Go_iload_n (pc' := 4) dX9_append_3 rfl rfl rfl ?_
  refine Go_if_ltY (tgt := 51) (pc' := 7) dX9_append_4 (by decide) rfl (by omega) (fun c4 => ?_) (fun c4 => by exfalso; omega)
  refine Go_return dX9_append_51 rfl ?_
  rw [show (n : Int) + 1 + 1 + 1 + 1 = (n : Int) + 4 by omega]
  refine hk _ ?_ ?_ ?_ ?_ ?_
  intro i hi; unfold upd; rw [if_neg (by omega), if_neg (by omega), if_neg (by omega), if_neg (by omega)]
  unfold upd; rw [if_neg (by omega), if_neg (by omega), if_neg (by omega), if_pos rfl]
  unfold upd; rw [if_neg (by omega), if_neg (by omega), if_pos rfl]; rfl
  unfold upd; rw [if_neg (by omega), if_pos rfl]; rfl
  unfold upd; rw [if_pos rfl]; rfl
def sel (a b c e f : Int32) (k : Int) : Int32 := if k < 4 then a else if k < 8 then b else if k < 12 then c else if k < 16 then e else f
set_option maxRecDepth 20000 in
set_option maxHeartbeats 1000000 in
theorem fd_loop {G : GC} {d mc ms : Nat} {h : HS} {K : Option Value → HS → Prop} {a b c e f : Int32} {n0 : Nat} {u0 : Nat → Int32} (S : Shp h) (h0 : n0 ≤ 580) (hk : ∀ w : Nat → Int32, (∀ i, i < n0 → w i = u0 i) → (∀ k : Nat, k < 20 → w (n0 + k) = byt (sel a b c e f (k : Int)) (24 - 8 * ((k : Int) % 4))) → K (some (.int (iZ ((n0 : Int) + 20)))) (hT h 116 99 28 w ((n0 : Int) + 20))) : ∀ (m k : Nat) (u : Nat → Int32) (v7 : Value), k + m = 20 → (∀ i, i < n0 → u i = u0 i) → (∀ kq, kq < k → u (n0 + kq) = byt (sel a b c e f (kq : Int)) (24 - 8 * ((kq : Int) % 4))) → Go G d mc ms M_X12_feed 18 [.ref 99, .int a, .int b, .int c, .int e, .int f, .int (iZ (k : Int)), v7] [] (hT h 116 99 28 u ((n0 : Int) + k)) K := by
  intro m
  induction m with
  | zero =>
    intro k u v7 hm h1 h2
    have hk := hk u h1 (fun kq q => h2 kq (by omega))
    rw [show (n0 : Int) + 20 = (n0 : Int) + k by omega] at hk
    refine Go_iload (pc' := 20) dX12_feed_18 rfl rfl ?_
    refine Go_bipush (v := iZ 20) (pc' := 22) dX12_feed_20 rfl (by decide) ?_
    refine Go_icmp_geY (tgt := 115) (pc' := 25) dX12_feed_22 (by decide) rfl (by first | exact ⟨i_lo _, i_hi _⟩ | omega) (by first | exact ⟨i_lo _, i_hi _⟩ | omega) (fun c22 => ?_) (fun c22 => by exfalso; omega)
    refine Go_aload_n (pc' := 116) dX12_feed_115 rfl rfl rfl ?_
    refine Go_getIv (v := (iZ ((n0 : Int) + k))) (pc' := 119) dX12_feed_116 rfl kf_RX12_203 (by decide) (by decide) rfl (S.b 99 rfl rfl) (S.o 99 rfl rfl rfl) (hT_n) ?_
    refine Go_ireturn (ty := .int) dX12_feed_119 rfl rfl ?_
    exact hk
  | succ m ih =>
    intro k u v7 hm h1 h2
    refine Go_iload (pc' := 20) dX12_feed_18 rfl rfl ?_
    refine Go_bipush (v := iZ 20) (pc' := 22) dX12_feed_20 rfl (by decide) ?_
    refine Go_icmp_geY (tgt := 115) (pc' := 25) dX12_feed_22 (by decide) rfl (by first | exact ⟨i_lo _, i_hi _⟩ | omega) (by first | exact ⟨i_lo _, i_hi _⟩ | omega) (fun c22 => by exfalso; omega) (fun c22 => ?_)
    refine Go_iload (pc' := 27) dX12_feed_25 rfl rfl ?_
    refine Go_iconst (v := iZ 4) (pc' := 28) dX12_feed_27 rfl (by decide) ?_
    refine Go_icmp_geY (tgt := 35) (pc' := 31) dX12_feed_28 (by decide) rfl (by first | exact ⟨i_lo _, i_hi _⟩ | omega) (by first | exact ⟨i_lo _, i_hi _⟩ | omega) (fun c28 => ?_) (fun c28 => ?_)
    · refine Go_iload (pc' := 37) dX12_feed_35 rfl rfl ?_
      refine Go_bipush (v := iZ 8) (pc' := 39) dX12_feed_37 rfl (by decide) ?_
      refine Go_icmp_geY (tgt := 46) (pc' := 42) dX12_feed_39 (by decide) rfl (by first | exact ⟨i_lo _, i_hi _⟩ | omega) (by first | exact ⟨i_lo _, i_hi _⟩ | omega) (fun c39 => ?_) (fun c39 => ?_)
      · refine Go_iload (pc' := 48) dX12_feed_46 rfl rfl ?_
        refine Go_bipush (v := iZ 12) (pc' := 50) dX12_feed_48 rfl (by decide) ?_
        refine Go_icmp_geY (tgt := 57) (pc' := 53) dX12_feed_50 (by decide) rfl (by first | exact ⟨i_lo _, i_hi _⟩ | omega) (by first | exact ⟨i_lo _, i_hi _⟩ | omega) (fun c50 => ?_) (fun c50 => ?_)
        · refine Go_iload (pc' := 59) dX12_feed_57 rfl rfl ?_
          refine Go_bipush (v := iZ 16) (pc' := 61) dX12_feed_59 rfl (by decide) ?_
          refine Go_icmp_geY (tgt := 69) (pc' := 64) dX12_feed_61 (by decide) rfl (by first | exact ⟨i_lo _, i_hi _⟩ | omega) (by first | exact ⟨i_lo _, i_hi _⟩ | omega) (fun c61 => ?_) (fun c61 => ?_)
          · refine Go_iload (pc' := 71) dX12_feed_69 rfl rfl ?_
            refine Go_istore (pc' := 73) (lv' := [.ref _, .int _, .int _, .int _, .int _, .int _, .int _, .int _]) dX12_feed_71 rfl (Nat.le_of_ble_eq_true rfl) rfl rfl ?_
            refine Go_aload_n (pc' := 74) dX12_feed_73 rfl rfl rfl ?_
            refine Go_getRs (pc' := 77) dX12_feed_74 rfl kf_RX12_58 (by decide) (by decide) rfl (S.b 99 rfl rfl) (S.o 99 rfl rfl rfl) (S.r 99 17 rfl rfl rfl) ?_
            refine Go_aload_n (pc' := 78) dX12_feed_77 rfl rfl rfl ?_
            refine Go_getIv (v := (iZ ((n0 : Int) + k))) (pc' := 81) dX12_feed_78 rfl kf_RX12_203 (by decide) (by decide) rfl (S.b 99 rfl rfl) (S.o 99 rfl rfl rfl) (hT_n) ?_
            refine Go_iload (pc' := 83) dX12_feed_81 rfl rfl ?_
            refine Go_bipush (v := iZ 24) (pc' := 85) dX12_feed_83 rfl (by decide) ?_
            refine Go_bipush (v := iZ 8) (pc' := 87) dX12_feed_85 rfl (by decide) ?_
            refine Go_iload (pc' := 89) dX12_feed_87 rfl rfl ?_
            refine Go_iconst (v := iZ 4) (pc' := 90) dX12_feed_89 rfl (by decide) ?_
            refine Go_iremP (pc' := 91) dX12_feed_90 rfl (by omega) (by omega) ?_
            refine Go_imulZ (pc' := 92) dX12_feed_91 rfl ?_
            refine Go_isubZ (pc' := 93) dX12_feed_92 rfl ?_
            refine Go_ishr (pc' := 94) dX12_feed_93 rfl ?_
            refine Go_sipush (v := iZ 255) (pc' := 97) dX12_feed_94 rfl (by decide) ?_
            refine Go_iand (pc' := 98) dX12_feed_97 rfl ?_
            have es : sel a b c e f (k : Int) = f := by unfold sel; rw [if_neg (by omega), if_neg (by omega), if_neg (by omega), if_neg (by omega)]
            refine Go_iastoreZ (n := 600) (k := (n0 + k)) (pc' := 99) dX12_feed_98 rfl (S.b 116 rfl rfl) (S.k 116 rfl rfl rfl) (by omega) (by omega) (by decide) ?_
            refine Go_aload_n (pc' := 100) dX12_feed_99 rfl rfl rfl ?_
            refine Go_dup (pc' := 101) dX12_feed_100 rfl rfl ?_
            refine Go_getIv (v := (iZ ((n0 : Int) + k))) (pc' := 104) dX12_feed_101 rfl kf_RX12_203 (by decide) (by decide) rfl (S.b 99 rfl rfl) (S.o 99 rfl rfl rfl) ((vi_skip (Or.inl (by decide))).trans (hT_n)) ?_
            refine Go_iconst (v := iZ 1) (pc' := 105) dX12_feed_104 rfl (by decide) ?_
            refine Go_iaddZ (pc' := 106) dX12_feed_105 rfl ?_
            refine Go_putI (pc' := 109) dX12_feed_106 rfl kf_RX12_203 (by decide) (by decide) rfl (S.b 99 rfl rfl) (S.o 99 rfl rfl rfl) (Or.inl rfl) rfl rfl ?_
            refine Go_iincZ (pc' := 112) (lv' := [.ref _, .int _, .int _, .int _, .int _, .int _, .int _, .int _]) dX12_feed_109 rfl rfl (Nat.le_of_ble_eq_true rfl) rfl rfl ?_
            refine Go_goto (tgt := 18) dX12_feed_112 (by decide) ?_
            rw [hT_step (by decide), show (n0 : Int) + k + 1 = (n0 : Int) + ((k + 1 : Nat) : Int) by omega]
            refine ih (k + 1) _ _ (by omega) (fun i hi => ?_) (fun kq hkq => ?_)
            · unfold upd; rw [if_neg (by omega)]; exact h1 i hi
            · unfold upd
              by_cases q : kq = k
              · rw [if_pos (by omega), q, es]; rfl
              · rw [if_neg (by omega)]; exact h2 kq (by omega)
          · refine Go_iload (pc' := 66) dX12_feed_64 rfl rfl ?_
            refine Go_goto (tgt := 71) dX12_feed_66 (by decide) ?_
            refine Go_istore (pc' := 73) (lv' := [.ref _, .int _, .int _, .int _, .int _, .int _, .int _, .int _]) dX12_feed_71 rfl (Nat.le_of_ble_eq_true rfl) rfl rfl ?_
            refine Go_aload_n (pc' := 74) dX12_feed_73 rfl rfl rfl ?_
            refine Go_getRs (pc' := 77) dX12_feed_74 rfl kf_RX12_58 (by decide) (by decide) rfl (S.b 99 rfl rfl) (S.o 99 rfl rfl rfl) (S.r 99 17 rfl rfl rfl) ?_
            refine Go_aload_n (pc' := 78) dX12_feed_77 rfl rfl rfl ?_
            refine Go_getIv (v := (iZ ((n0 : Int) + k))) (pc' := 81) dX12_feed_78 rfl kf_RX12_203 (by decide) (by decide) rfl (S.b 99 rfl rfl) (S.o 99 rfl rfl rfl) (hT_n) ?_
            refine Go_iload (pc' := 83) dX12_feed_81 rfl rfl ?_
            refine Go_bipush (v := iZ 24) (pc' := 85) dX12_feed_83 rfl (by decide) ?_
            refine Go_bipush (v := iZ 8) (pc' := 87) dX12_feed_85 rfl (by decide) ?_
            refine Go_iload (pc' := 89) dX12_feed_87 rfl rfl ?_
            refine Go_iconst (v := iZ 4) (pc' := 90) dX12_feed_89 rfl (by decide) ?_
            refine Go_iremP (pc' := 91) dX12_feed_90 rfl (by omega) (by omega) ?_
            refine Go_imulZ (pc' := 92) dX12_feed_91 rfl ?_
            refine Go_isubZ (pc' := 93) dX12_feed_92 rfl ?_
            refine Go_ishr (pc' := 94) dX12_feed_93 rfl ?_
            refine Go_sipush (v := iZ 255) (pc' := 97) dX12_feed_94 rfl (by decide) ?_
            refine Go_iand (pc' := 98) dX12_feed_97 rfl ?_
            have es : sel a b c e f (k : Int) = e := by unfold sel; rw [if_neg (by omega), if_neg (by omega), if_neg (by omega), if_pos (by omega)]
            refine Go_iastoreZ (n := 600) (k := (n0 + k)) (pc' := 99) dX12_feed_98 rfl (S.b 116 rfl rfl) (S.k 116 rfl rfl rfl) (by omega) (by omega) (by decide) ?_
            refine Go_aload_n (pc' := 100) dX12_feed_99 rfl rfl rfl ?_
            refine Go_dup (pc' := 101) dX12_feed_100 rfl rfl ?_
            refine Go_getIv (v := (iZ ((n0 : Int) + k))) (pc' := 104) dX12_feed_101 rfl kf_RX12_203 (by decide) (by decide) rfl (S.b 99 rfl rfl) (S.o 99 rfl rfl rfl) ((vi_skip (Or.inl (by decide))).trans (hT_n)) ?_
            refine Go_iconst (v := iZ 1) (pc' := 105) dX12_feed_104 rfl (by decide) ?_
            refine Go_iaddZ (pc' := 106) dX12_feed_105 rfl ?_
            refine Go_putI (pc' := 109) dX12_feed_106 rfl kf_RX12_203 (by decide) (by decide) rfl (S.b 99 rfl rfl) (S.o 99 rfl rfl rfl) (Or.inl rfl) rfl rfl ?_
            refine Go_iincZ (pc' := 112) (lv' := [.ref _, .int _, .int _, .int _, .int _, .int _, .int _, .int _]) dX12_feed_109 rfl rfl (Nat.le_of_ble_eq_true rfl) rfl rfl ?_
            refine Go_goto (tgt := 18) dX12_feed_112 (by decide) ?_
            rw [hT_step (by decide), show (n0 : Int) + k + 1 = (n0 : Int) + ((k + 1 : Nat) : Int) by omega]
            refine ih (k + 1) _ _ (by omega) (fun i hi => ?_) (fun kq hkq => ?_)
            · unfold upd; rw [if_neg (by omega)]; exact h1 i hi
            · unfold upd
              by_cases q : kq = k
              · rw [if_pos (by omega), q, es]; rfl
              · rw [if_neg (by omega)]; exact h2 kq (by omega)
        · refine Go_iload_n (pc' := 54) dX12_feed_53 rfl rfl rfl ?_
          refine Go_goto (tgt := 71) dX12_feed_54 (by decide) ?_
          refine Go_istore (pc' := 73) (lv' := [.ref _, .int _, .int _, .int _, .int _, .int _, .int _, .int _]) dX12_feed_71 rfl (Nat.le_of_ble_eq_true rfl) rfl rfl ?_
          refine Go_aload_n (pc' := 74) dX12_feed_73 rfl rfl rfl ?_
          refine Go_getRs (pc' := 77) dX12_feed_74 rfl kf_RX12_58 (by decide) (by decide) rfl (S.b 99 rfl rfl) (S.o 99 rfl rfl rfl) (S.r 99 17 rfl rfl rfl) ?_
          refine Go_aload_n (pc' := 78) dX12_feed_77 rfl rfl rfl ?_
          refine Go_getIv (v := (iZ ((n0 : Int) + k))) (pc' := 81) dX12_feed_78 rfl kf_RX12_203 (by decide) (by decide) rfl (S.b 99 rfl rfl) (S.o 99 rfl rfl rfl) (hT_n) ?_
          refine Go_iload (pc' := 83) dX12_feed_81 rfl rfl ?_
          refine Go_bipush (v := iZ 24) (pc' := 85) dX12_feed_83 rfl (by decide) ?_
          refine Go_bipush (v := iZ 8) (pc' := 87) dX12_feed_85 rfl (by decide) ?_
          refine Go_iload (pc' := 89) dX12_feed_87 rfl rfl ?_
          refine Go_iconst (v := iZ 4) (pc' := 90) dX12_feed_89 rfl (by decide) ?_
          refine Go_iremP (pc' := 91) dX12_feed_90 rfl (by omega) (by omega) ?_
          refine Go_imulZ (pc' := 92) dX12_feed_91 rfl ?_
          refine Go_isubZ (pc' := 93) dX12_feed_92 rfl ?_
          refine Go_ishr (pc' := 94) dX12_feed_93 rfl ?_
          refine Go_sipush (v := iZ 255) (pc' := 97) dX12_feed_94 rfl (by decide) ?_
          refine Go_iand (pc' := 98) dX12_feed_97 rfl ?_
          have es : sel a b c e f (k : Int) = c := by unfold sel; rw [if_neg (by omega), if_neg (by omega), if_pos (by omega)]
          refine Go_iastoreZ (n := 600) (k := (n0 + k)) (pc' := 99) dX12_feed_98 rfl (S.b 116 rfl rfl) (S.k 116 rfl rfl rfl) (by omega) (by omega) (by decide) ?_
          refine Go_aload_n (pc' := 100) dX12_feed_99 rfl rfl rfl ?_
          refine Go_dup (pc' := 101) dX12_feed_100 rfl rfl ?_
          refine Go_getIv (v := (iZ ((n0 : Int) + k))) (pc' := 104) dX12_feed_101 rfl kf_RX12_203 (by decide) (by decide) rfl (S.b 99 rfl rfl) (S.o 99 rfl rfl rfl) ((vi_skip (Or.inl (by decide))).trans (hT_n)) ?_
          refine Go_iconst (v := iZ 1) (pc' := 105) dX12_feed_104 rfl (by decide) ?_
          refine Go_iaddZ (pc' := 106) dX12_feed_105 rfl ?_
          refine Go_putI (pc' := 109) dX12_feed_106 rfl kf_RX12_203 (by decide) (by decide) rfl (S.b 99 rfl rfl) (S.o 99 rfl rfl rfl) (Or.inl rfl) rfl rfl ?_
          refine Go_iincZ (pc' := 112) (lv' := [.ref _, .int _, .int _, .int _, .int _, .int _, .int _, .int _]) dX12_feed_109 rfl rfl (Nat.le_of_ble_eq_true rfl) rfl rfl ?_
          refine Go_goto (tgt := 18) dX12_feed_112 (by decide) ?_
          rw [hT_step (by decide), show (n0 : Int) + k + 1 = (n0 : Int) + ((k + 1 : Nat) : Int) by omega]
          refine ih (k + 1) _ _ (by omega) (fun i hi => ?_) (fun kq hkq => ?_)
          · unfold upd; rw [if_neg (by omega)]; exact h1 i hi
          · unfold upd
            by_cases q : kq = k
            · rw [if_pos (by omega), q, es]; rfl
            · rw [if_neg (by omega)]; exact h2 kq (by omega)
      · refine Go_iload_n (pc' := 43) dX12_feed_42 rfl rfl rfl ?_
        refine Go_goto (tgt := 71) dX12_feed_43 (by decide) ?_
        refine Go_istore (pc' := 73) (lv' := [.ref _, .int _, .int _, .int _, .int _, .int _, .int _, .int _]) dX12_feed_71 rfl (Nat.le_of_ble_eq_true rfl) rfl rfl ?_
        refine Go_aload_n (pc' := 74) dX12_feed_73 rfl rfl rfl ?_
        refine Go_getRs (pc' := 77) dX12_feed_74 rfl kf_RX12_58 (by decide) (by decide) rfl (S.b 99 rfl rfl) (S.o 99 rfl rfl rfl) (S.r 99 17 rfl rfl rfl) ?_
        refine Go_aload_n (pc' := 78) dX12_feed_77 rfl rfl rfl ?_
        refine Go_getIv (v := (iZ ((n0 : Int) + k))) (pc' := 81) dX12_feed_78 rfl kf_RX12_203 (by decide) (by decide) rfl (S.b 99 rfl rfl) (S.o 99 rfl rfl rfl) (hT_n) ?_
        refine Go_iload (pc' := 83) dX12_feed_81 rfl rfl ?_
        refine Go_bipush (v := iZ 24) (pc' := 85) dX12_feed_83 rfl (by decide) ?_
        refine Go_bipush (v := iZ 8) (pc' := 87) dX12_feed_85 rfl (by decide) ?_
        refine Go_iload (pc' := 89) dX12_feed_87 rfl rfl ?_
        refine Go_iconst (v := iZ 4) (pc' := 90) dX12_feed_89 rfl (by decide) ?_
        refine Go_iremP (pc' := 91) dX12_feed_90 rfl (by omega) (by omega) ?_
        refine Go_imulZ (pc' := 92) dX12_feed_91 rfl ?_
        refine Go_isubZ (pc' := 93) dX12_feed_92 rfl ?_
        refine Go_ishr (pc' := 94) dX12_feed_93 rfl ?_
        refine Go_sipush (v := iZ 255) (pc' := 97) dX12_feed_94 rfl (by decide) ?_
        refine Go_iand (pc' := 98) dX12_feed_97 rfl ?_
        have es : sel a b c e f (k : Int) = b := by unfold sel; rw [if_neg (by omega), if_pos (by omega)]
        refine Go_iastoreZ (n := 600) (k := (n0 + k)) (pc' := 99) dX12_feed_98 rfl (S.b 116 rfl rfl) (S.k 116 rfl rfl rfl) (by omega) (by omega) (by decide) ?_
        refine Go_aload_n (pc' := 100) dX12_feed_99 rfl rfl rfl ?_
        refine Go_dup (pc' := 101) dX12_feed_100 rfl rfl ?_
        refine Go_getIv (v := (iZ ((n0 : Int) + k))) (pc' := 104) dX12_feed_101 rfl kf_RX12_203 (by decide) (by decide) rfl (S.b 99 rfl rfl) (S.o 99 rfl rfl rfl) ((vi_skip (Or.inl (by decide))).trans (hT_n)) ?_
        refine Go_iconst (v := iZ 1) (pc' := 105) dX12_feed_104 rfl (by decide) ?_
        refine Go_iaddZ (pc' := 106) dX12_feed_105 rfl ?_
        refine Go_putI (pc' := 109) dX12_feed_106 rfl kf_RX12_203 (by decide) (by decide) rfl (S.b 99 rfl rfl) (S.o 99 rfl rfl rfl) (Or.inl rfl) rfl rfl ?_
        refine Go_iincZ (pc' := 112) (lv' := [.ref _, .int _, .int _, .int _, .int _, .int _, .int _, .int _]) dX12_feed_109 rfl rfl (Nat.le_of_ble_eq_true rfl) rfl rfl ?_
        refine Go_goto (tgt := 18) dX12_feed_112 (by decide) ?_
        rw [hT_step (by decide), show (n0 : Int) + k + 1 = (n0 : Int) + ((k + 1 : Nat) : Int) by omega]
        refine ih (k + 1) _ _ (by omega) (fun i hi => ?_) (fun kq hkq => ?_)
        · unfold upd; rw [if_neg (by omega)]; exact h1 i hi
        · unfold upd
          by_cases q : kq = k
          · rw [if_pos (by omega), q, es]; rfl
          · rw [if_neg (by omega)]; exact h2 kq (by omega)
    · refine Go_iload_n (pc' := 32) dX12_feed_31 rfl rfl rfl ?_
      refine Go_goto (tgt := 71) dX12_feed_32 (by decide) ?_
      refine Go_istore (pc' := 73) (lv' := [.ref _, .int _, .int _, .int _, .int _, .int _, .int _, .int _]) dX12_feed_71 rfl (Nat.le_of_ble_eq_true rfl) rfl rfl ?_
      refine Go_aload_n (pc' := 74) dX12_feed_73 rfl rfl rfl ?_
      refine Go_getRs (pc' := 77) dX12_feed_74 rfl kf_RX12_58 (by decide) (by decide) rfl (S.b 99 rfl rfl) (S.o 99 rfl rfl rfl) (S.r 99 17 rfl rfl rfl) ?_
      refine Go_aload_n (pc' := 78) dX12_feed_77 rfl rfl rfl ?_
      refine Go_getIv (v := (iZ ((n0 : Int) + k))) (pc' := 81) dX12_feed_78 rfl kf_RX12_203 (by decide) (by decide) rfl (S.b 99 rfl rfl) (S.o 99 rfl rfl rfl) (hT_n) ?_
      refine Go_iload (pc' := 83) dX12_feed_81 rfl rfl ?_
      refine Go_bipush (v := iZ 24) (pc' := 85) dX12_feed_83 rfl (by decide) ?_
      refine Go_bipush (v := iZ 8) (pc' := 87) dX12_feed_85 rfl (by decide) ?_
      refine Go_iload (pc' := 89) dX12_feed_87 rfl rfl ?_
      refine Go_iconst (v := iZ 4) (pc' := 90) dX12_feed_89 rfl (by decide) ?_
      refine Go_iremP (pc' := 91) dX12_feed_90 rfl (by omega) (by omega) ?_
      refine Go_imulZ (pc' := 92) dX12_feed_91 rfl ?_
      refine Go_isubZ (pc' := 93) dX12_feed_92 rfl ?_
      refine Go_ishr (pc' := 94) dX12_feed_93 rfl ?_
      refine Go_sipush (v := iZ 255) (pc' := 97) dX12_feed_94 rfl (by decide) ?_
      refine Go_iand (pc' := 98) dX12_feed_97 rfl ?_
      have es : sel a b c e f (k : Int) = a := by unfold sel; rw [if_pos (by omega)]
      refine Go_iastoreZ (n := 600) (k := (n0 + k)) (pc' := 99) dX12_feed_98 rfl (S.b 116 rfl rfl) (S.k 116 rfl rfl rfl) (by omega) (by omega) (by decide) ?_
      refine Go_aload_n (pc' := 100) dX12_feed_99 rfl rfl rfl ?_
      refine Go_dup (pc' := 101) dX12_feed_100 rfl rfl ?_
      refine Go_getIv (v := (iZ ((n0 : Int) + k))) (pc' := 104) dX12_feed_101 rfl kf_RX12_203 (by decide) (by decide) rfl (S.b 99 rfl rfl) (S.o 99 rfl rfl rfl) ((vi_skip (Or.inl (by decide))).trans (hT_n)) ?_
      refine Go_iconst (v := iZ 1) (pc' := 105) dX12_feed_104 rfl (by decide) ?_
      refine Go_iaddZ (pc' := 106) dX12_feed_105 rfl ?_
      refine Go_putI (pc' := 109) dX12_feed_106 rfl kf_RX12_203 (by decide) (by decide) rfl (S.b 99 rfl rfl) (S.o 99 rfl rfl rfl) (Or.inl rfl) rfl rfl ?_
      refine Go_iincZ (pc' := 112) (lv' := [.ref _, .int _, .int _, .int _, .int _, .int _, .int _, .int _]) dX12_feed_109 rfl rfl (Nat.le_of_ble_eq_true rfl) rfl rfl ?_
      refine Go_goto (tgt := 18) dX12_feed_112 (by decide) ?_
      rw [hT_step (by decide), show (n0 : Int) + k + 1 = (n0 : Int) + ((k + 1 : Nat) : Int) by omega]
      refine ih (k + 1) _ _ (by omega) (fun i hi => ?_) (fun kq hkq => ?_)
      · unfold upd; rw [if_neg (by omega)]; exact h1 i hi
      · unfold upd
        by_cases q : kq = k
        · rw [if_pos (by omega), q, es]; rfl
        · rw [if_neg (by omega)]; exact h2 kq (by omega)
theorem feed_inv {h : HS} {n : Nat} {w v : Nat → Int32} {f : Nat → Int32} {g : Nat → Int} (I : Inv h) (en : vi h 71 1 = iZ (n : Int)) (hc : n ≤ 580) (w1 : ∀ i, i < n → w i = vi h 72 i) (w2 : ∀ k : Nat, k < 20 → w (n + k) = byt (f k) (g k)) (v1 : ∀ i, i < n → v i = vi (hT h 72 71 1 w ((n : Int) + 20)) 116 i) (v2 : ∀ k : Nat, k < 20 → v (n + k) = byt (f k) (g k)) : Inv (hT (hT h 72 71 1 w ((n : Int) + 20)) 116 99 28 v ((n : Int) + 20)) := by
  have en3 : (vi h 71 1).toInt = (n : Int) := by rw [en, iZ_t (by omega)]
  have T := I.T
  have l1 : vi (hT (hT h 72 71 1 w ((n : Int) + 20)) 116 99 28 v ((n : Int) + 20)) 71 1 = iZ ((n : Int) + 20) := (hT_o (by decide) (by decide)).trans hT_n
  refine ⟨I.S, I.D.fr ((SameOn.hT (fun _ => rfl) rfl).tr (SameOn.hT (fun _ => rfl) rfl)), I.W.fr ((SameOn.hT (fun _ => rfl) rfl).tr (SameOn.hT (fun _ => rfl) rfl)), I.P.fr ((SameOn.hT (fun _ => rfl) rfl).tr (SameOn.hT (fun _ => rfl) rfl)), I.E.fr ((SameOn.hT (fun _ => rfl) rfl).tr (SameOn.hT (fun _ => rfl) rfl)), I.F.fr ((SameOn.hT (fun _ => rfl) rfl).tr (SameOn.hT (fun _ => rfl) rfl)), ?_, I.G.fr ((SameOn.hT (fun _ => rfl) rfl).tr (SameOn.hT (fun _ => rfl) rfl)), I.C.fr ((SameOn.hT (fun _ => rfl) rfl).tr (SameOn.hT (fun _ => rfl) rfl)) (Nat.le_refl _) (fun _ _ => rfl) (fun j hj _ _ b => ⟨(hT_o (by omega) (by omega)).trans (hT_o (by omega) (by omega)), rfl⟩), I.Q.fr ((SameOn.hT (fun _ => rfl) rfl).tr (SameOn.hT (fun _ => rfl) rfl)) (Nat.le_refl _) (fun _ _ => rfl) (fun j hj _ _ b => ⟨(hT_o (by omega) (by omega)).trans (hT_o (by omega) (by omega)), rfl⟩)⟩
  refine ⟨l1.trans hT_n.symm, ?_, fun i hi => ?_, ?_, ?_⟩
  · rw [l1]; exact rgz (by omega) (by omega)
  · rw [l1, iZ_t (by omega)] at hi
    have a1 : vi (hT (hT h 72 71 1 w ((n : Int) + 20)) 116 99 28 v ((n : Int) + 20)) 72 i = w i := (hT_o (by decide) (Or.inl (by decide))).trans (hT_r (by decide))
    have a2 : vi (hT (hT h 72 71 1 w ((n : Int) + 20)) 116 99 28 v ((n : Int) + 20)) 116 i = v i := hT_r (by decide)
    rw [a1, a2]
    by_cases q : i < n
    · obtain ⟨t1, t2⟩ := T.2.2.1 i (by omega)
      rw [w1 i q, v1 i q]
      refine ⟨t1.trans ?_, t2⟩
      exact (hT_o (by decide) (Or.inl (by decide))).symm
    · have z1 := w2 (i - n) (by omega)
      have z2 := v2 (i - n) (by omega)
      rw [show n + (i - n) = i by omega] at z1 z2
      rw [z1, z2]; exact ⟨rfl, byt_r _ _⟩
  · exact ((hT_o (by decide) (by decide)).trans (hT_o (by decide) (by decide))).trans (T.2.2.2.1.trans ((hT_o (by decide) (by decide)).trans (hT_o (by decide) (by decide))).symm)
  · exact ((hT_o (by decide) (by decide)).trans (hT_o (by decide) (by decide))).trans (T.2.2.2.2.trans ((hT_o (by decide) (by decide)).trans (hT_o (by decide) (by decide))).symm)
set_option maxRecDepth 20000 in
set_option maxHeartbeats 1000000 in
theorem pair14 {G : GC} (a b c e f : Int32) : PairI G M_X11_feed M_X12_feed [.int a, .int b, .int c, .int e, .int f] := by
  intro h I
  obtain ⟨n, hn, en⟩ := of_rgZ (b := 600) I.T.2.1
  have en2 : vi h 99 28 = iZ (n : Int) := I.T.1.symm.trans en
  have en3 : (vi h 71 1).toInt = (n : Int) := by rw [en, iZ_t (by omega)]
  by_cases hc : n ≤ 580
  · refine ⟨fun r h1 => ∃ w : Nat → Int32, (∀ i, i < n → w i = vi h 72 i) ∧ (∀ k : Nat, k < 20 → w (n + k) = byt (sel a b c e f (k : Int)) (24 - 8 * ((k : Int) % 4))) ∧ r = iZ ((n : Int) + 20) ∧ h1 = hT h 72 71 1 w ((n : Int) + 20), fun K k => ?_, ?_⟩
    · refine Go.more (d := 60) (mc := 0) (ms := 0) ?_ (by omega) (by omega) (by omega)
      show Go G 60 0 0 M_X11_feed 0 [.ref 64, .int a, .int b, .int c, .int e, .int f] [] h K
      refine Go_aload_n (pc' := 1) dX11_feed_0 rfl rfl rfl ?_
      refine Go_getRs (pc' := 4) dX11_feed_1 rfl kf_RX11_39 (by decide) (by decide) rfl (I.S.b 64 rfl rfl) (I.S.o 64 rfl rfl rfl) (I.S.r 64 5 rfl rfl rfl) ?_
      refine Go_getIv (v := (iZ (n : Int))) (pc' := 7) dX11_feed_4 rfl kf_RX11_206 (by decide) (by decide) rfl (I.S.b 71 rfl rfl) (I.S.o 71 rfl rfl rfl) (en) ?_
      refine Go_bipush (v := iZ 20) (pc' := 9) dX11_feed_7 rfl (by decide) ?_
      refine Go_iaddZ (pc' := 10) dX11_feed_9 rfl ?_
      refine Go_sipush (v := iZ 600) (pc' := 13) dX11_feed_10 rfl (by decide) ?_
      refine Go_icmp_leY (tgt := 18) (pc' := 16) dX11_feed_13 (by decide) rfl (by first | exact ⟨i_lo _, i_hi _⟩ | omega) (by first | exact ⟨i_lo _, i_hi _⟩ | omega) (fun c13 => ?_) (fun c13 => by exfalso; omega)
      rw [← hT_same en (by decide : (72 : Nat) ≠ 71)]
      refine Go_aload_n (pc' := 19) dX11_feed_18 rfl rfl rfl ?_
      refine Go_getRs (pc' := 22) dX11_feed_19 rfl kf_RX11_39 (by decide) (by decide) rfl (I.S.b 64 rfl rfl) (I.S.o 64 rfl rfl rfl) (I.S.r 64 5 rfl rfl rfl) ?_
      refine Go_iload_n (pc' := 23) dX11_feed_22 rfl rfl rfl ?_
      refine Go_callV_v (pc' := 26) (As := [.int _]) (st := []) dX11_feed_23 rfl ok_X9_append km_RX11_209 (I.S.o 71 rfl rfl rfl) (I.S.b 71 rfl rfl) ⟨_, _, rfl⟩ rfl (Nat.le_of_ble_eq_true rfl) rfl rfl rfl (Nat.le_of_ble_eq_true rfl) (Nat.lt_succ_self _) ?_
      refine s_append I.S (by omega) (fun w1 p1 q10 q11 q12 q13 => ?_)
      refine ⟨rfl, ?_⟩
      refine Go_aload_n (pc' := 27) dX11_feed_26 rfl rfl rfl ?_
      refine Go_getRs (pc' := 30) dX11_feed_27 rfl kf_RX11_39 (by decide) (by decide) rfl (I.S.b 64 rfl rfl) (I.S.o 64 rfl rfl rfl) (I.S.r 64 5 rfl rfl rfl) ?_
      refine Go_iload_n (pc' := 31) dX11_feed_30 rfl rfl rfl ?_
      refine Go_callV_v (pc' := 34) (As := [.int _]) (st := []) dX11_feed_31 rfl ok_X9_append km_RX11_209 (I.S.o 71 rfl rfl rfl) (I.S.b 71 rfl rfl) ⟨_, _, rfl⟩ rfl (Nat.le_of_ble_eq_true rfl) rfl rfl rfl (Nat.le_of_ble_eq_true rfl) (Nat.lt_succ_self _) ?_
      refine s_append (n := n + 4) I.S (by omega) (fun w2 p2 q20 q21 q22 q23 => ?_)
      refine ⟨rfl, ?_⟩
      rw [show ((n + 4 : Nat) : Int) + 4 = (n : Int) + 8 by omega]
      refine Go_aload_n (pc' := 35) dX11_feed_34 rfl rfl rfl ?_
      refine Go_getRs (pc' := 38) dX11_feed_35 rfl kf_RX11_39 (by decide) (by decide) rfl (I.S.b 64 rfl rfl) (I.S.o 64 rfl rfl rfl) (I.S.r 64 5 rfl rfl rfl) ?_
      refine Go_iload_n (pc' := 39) dX11_feed_38 rfl rfl rfl ?_
      refine Go_callV_v (pc' := 42) (As := [.int _]) (st := []) dX11_feed_39 rfl ok_X9_append km_RX11_209 (I.S.o 71 rfl rfl rfl) (I.S.b 71 rfl rfl) ⟨_, _, rfl⟩ rfl (Nat.le_of_ble_eq_true rfl) rfl rfl rfl (Nat.le_of_ble_eq_true rfl) (Nat.lt_succ_self _) ?_
      refine s_append (n := n + 8) I.S (by omega) (fun w3 p3 q30 q31 q32 q33 => ?_)
      refine ⟨rfl, ?_⟩
      rw [show ((n + 8 : Nat) : Int) + 4 = (n : Int) + 12 by omega]
      refine Go_aload_n (pc' := 43) dX11_feed_42 rfl rfl rfl ?_
      refine Go_getRs (pc' := 46) dX11_feed_43 rfl kf_RX11_39 (by decide) (by decide) rfl (I.S.b 64 rfl rfl) (I.S.o 64 rfl rfl rfl) (I.S.r 64 5 rfl rfl rfl) ?_
      refine Go_iload (pc' := 48) dX11_feed_46 rfl rfl ?_
      refine Go_callV_v (pc' := 51) (As := [.int _]) (st := []) dX11_feed_48 rfl ok_X9_append km_RX11_209 (I.S.o 71 rfl rfl rfl) (I.S.b 71 rfl rfl) ⟨_, _, rfl⟩ rfl (Nat.le_of_ble_eq_true rfl) rfl rfl rfl (Nat.le_of_ble_eq_true rfl) (Nat.lt_succ_self _) ?_
      refine s_append (n := n + 12) I.S (by omega) (fun w4 p4 q40 q41 q42 q43 => ?_)
      refine ⟨rfl, ?_⟩
      rw [show ((n + 12 : Nat) : Int) + 4 = (n : Int) + 16 by omega]
      refine Go_aload_n (pc' := 52) dX11_feed_51 rfl rfl rfl ?_
      refine Go_getRs (pc' := 55) dX11_feed_52 rfl kf_RX11_39 (by decide) (by decide) rfl (I.S.b 64 rfl rfl) (I.S.o 64 rfl rfl rfl) (I.S.r 64 5 rfl rfl rfl) ?_
      refine Go_iload (pc' := 57) dX11_feed_55 rfl rfl ?_
      refine Go_callV_v (pc' := 60) (As := [.int _]) (st := []) dX11_feed_57 rfl ok_X9_append km_RX11_209 (I.S.o 71 rfl rfl rfl) (I.S.b 71 rfl rfl) ⟨_, _, rfl⟩ rfl (Nat.le_of_ble_eq_true rfl) rfl rfl rfl (Nat.le_of_ble_eq_true rfl) (Nat.lt_succ_self _) ?_
      refine s_append (n := n + 16) I.S (by omega) (fun w5 p5 q50 q51 q52 q53 => ?_)
      refine ⟨rfl, ?_⟩
      rw [show ((n + 16 : Nat) : Int) + 4 = (n : Int) + 20 by omega]
      refine Go_aload_n (pc' := 61) dX11_feed_60 rfl rfl rfl ?_
      refine Go_getRs (pc' := 64) dX11_feed_61 rfl kf_RX11_39 (by decide) (by decide) rfl (I.S.b 64 rfl rfl) (I.S.o 64 rfl rfl rfl) (I.S.r 64 5 rfl rfl rfl) ?_
      refine Go_getIv (v := (iZ ((n : Int) + 20))) (pc' := 67) dX11_feed_64 rfl kf_RX11_206 (by decide) (by decide) rfl (I.S.b 71 rfl rfl) (I.S.o 71 rfl rfl rfl) (hT_n) ?_
      refine Go_ireturn (ty := .int) dX11_feed_67 rfl rfl ?_
      refine k _ _ ⟨w5, fun i hi => ?_, fun k hk => ?_, rfl, rfl⟩ I.S
      · exact (p5 i (by omega)).trans ((p4 i (by omega)).trans ((p3 i (by omega)).trans ((p2 i (by omega)).trans (p1 i hi))))
      · rcases (show k = 0 ∨ k = 1 ∨ k = 2 ∨ k = 3 ∨ k = 4 ∨ k = 5 ∨ k = 6 ∨ k = 7 ∨ k = 8 ∨ k = 9 ∨ k = 10 ∨ k = 11 ∨ k = 12 ∨ k = 13 ∨ k = 14 ∨ k = 15 ∨ k = 16 ∨ k = 17 ∨ k = 18 ∨ k = 19 by omega) with rfl | rfl | rfl | rfl | rfl | rfl | rfl | rfl | rfl | rfl | rfl | rfl | rfl | rfl | rfl | rfl | rfl | rfl | rfl | rfl
        · exact (p5 (n + 0) (by omega)).trans ((p4 (n + 0) (by omega)).trans ((p3 (n + 0) (by omega)).trans ((p2 (n + 0) (by omega)).trans (q10))))
        · exact (p5 (n + 1) (by omega)).trans ((p4 (n + 1) (by omega)).trans ((p3 (n + 1) (by omega)).trans ((p2 (n + 1) (by omega)).trans (q11))))
        · exact (p5 (n + 2) (by omega)).trans ((p4 (n + 2) (by omega)).trans ((p3 (n + 2) (by omega)).trans ((p2 (n + 2) (by omega)).trans (q12))))
        · exact (p5 (n + 3) (by omega)).trans ((p4 (n + 3) (by omega)).trans ((p3 (n + 3) (by omega)).trans ((p2 (n + 3) (by omega)).trans (q13))))
        · exact (p5 (n + 4) (by omega)).trans ((p4 (n + 4) (by omega)).trans ((p3 (n + 4) (by omega)).trans (q20)))
        · exact (p5 (n + 5) (by omega)).trans ((p4 (n + 5) (by omega)).trans ((p3 (n + 5) (by omega)).trans (q21)))
        · exact (p5 (n + 6) (by omega)).trans ((p4 (n + 6) (by omega)).trans ((p3 (n + 6) (by omega)).trans (q22)))
        · exact (p5 (n + 7) (by omega)).trans ((p4 (n + 7) (by omega)).trans ((p3 (n + 7) (by omega)).trans (q23)))
        · exact (p5 (n + 8) (by omega)).trans ((p4 (n + 8) (by omega)).trans (q30))
        · exact (p5 (n + 9) (by omega)).trans ((p4 (n + 9) (by omega)).trans (q31))
        · exact (p5 (n + 10) (by omega)).trans ((p4 (n + 10) (by omega)).trans (q32))
        · exact (p5 (n + 11) (by omega)).trans ((p4 (n + 11) (by omega)).trans (q33))
        · exact (p5 (n + 12) (by omega)).trans (q40)
        · exact (p5 (n + 13) (by omega)).trans (q41)
        · exact (p5 (n + 14) (by omega)).trans (q42)
        · exact (p5 (n + 15) (by omega)).trans (q43)
        · exact q50
        · exact q51
        · exact q52
        · exact q53
    · rintro r h1 ⟨w, w1, w2, rfl, rfl⟩ K k
      show Go G 60 0 0 M_X12_feed 0 [.ref 99, .int a, .int b, .int c, .int e, .int f, un, un] [] (hT h 72 71 1 w ((n : Int) + 20)) K
      refine Go_aload_n (pc' := 1) dX12_feed_0 rfl rfl rfl ?_
      refine Go_getIv (v := (iZ (n : Int))) (pc' := 4) dX12_feed_1 rfl kf_RX12_203 (by decide) (by decide) rfl (I.S.b 99 rfl rfl) (I.S.o 99 rfl rfl rfl) ((hT_o (by decide) (by decide)).trans en2) ?_
      refine Go_bipush (v := iZ 20) (pc' := 6) dX12_feed_4 rfl (by decide) ?_
      refine Go_iaddZ (pc' := 7) dX12_feed_6 rfl ?_
      refine Go_sipush (v := iZ 600) (pc' := 10) dX12_feed_7 rfl (by decide) ?_
      refine Go_icmp_leY (tgt := 15) (pc' := 13) dX12_feed_10 (by decide) rfl (by first | exact ⟨i_lo _, i_hi _⟩ | omega) (by first | exact ⟨i_lo _, i_hi _⟩ | omega) (fun c10 => ?_) (fun c10 => by exfalso; omega)
      refine Go_iconst (v := iZ 0) (pc' := 16) dX12_feed_15 rfl (by decide) ?_
      refine Go_istore (pc' := 18) (lv' := [.ref _, .int _, .int _, .int _, .int _, .int _, .int _, un]) dX12_feed_16 rfl (Nat.le_of_ble_eq_true rfl) rfl rfl ?_
      have e28 : vi (hT h 72 71 1 w ((n : Int) + 20)) 99 28 = iZ ((n : Int) + ((0 : Nat) : Int)) := ((hT_o (by decide) (by decide)).trans en2).trans (by rw [Int.natCast_zero, Int.add_zero])
      have eH := hT_same (h := hT h 72 71 1 w ((n : Int) + 20)) (i := 116) e28 (by decide)
      have kk := fun (v : Nat → Int32) (v1 : ∀ i, i < n → v i = vi (hT h 72 71 1 w ((n : Int) + 20)) 116 i) (v2 : ∀ k : Nat, k < 20 → v (n + k) = byt (sel a b c e f (k : Int)) (24 - 8 * ((k : Int) % 4))) => k _ (feed_inv (f := fun k => sel a b c e f (k : Int)) (g := fun k => 24 - 8 * ((k : Int) % 4)) I en hc w1 w2 v1 v2)
      have key := fd_loop (G := G) (d := 60) (mc := 0) (ms := 0) (h := hT h 72 71 1 w ((n : Int) + 20)) (K := K) (u0 := vi (hT h 72 71 1 w ((n : Int) + 20)) 116) I.S hc kk 20 0 (vi (hT h 72 71 1 w ((n : Int) + 20)) 116) un rfl (fun _ _ => rfl) (fun k q => absurd q (Nat.not_lt_zero k))
      rw [eH] at key
      exact key
  · refine PairI.ro' (fun _ => iZ (-1)) h I (fun K k => ?_) (fun K k => ?_)
    · show Go G 60 0 0 M_X11_feed 0 [.ref 64, .int a, .int b, .int c, .int e, .int f] [] h K
      refine Go_aload_n (pc' := 1) dX11_feed_0 rfl rfl rfl ?_
      refine Go_getRs (pc' := 4) dX11_feed_1 rfl kf_RX11_39 (by decide) (by decide) rfl (I.S.b 64 rfl rfl) (I.S.o 64 rfl rfl rfl) (I.S.r 64 5 rfl rfl rfl) ?_
      refine Go_getIv (v := (iZ (n : Int))) (pc' := 7) dX11_feed_4 rfl kf_RX11_206 (by decide) (by decide) rfl (I.S.b 71 rfl rfl) (I.S.o 71 rfl rfl rfl) (en) ?_
      refine Go_bipush (v := iZ 20) (pc' := 9) dX11_feed_7 rfl (by decide) ?_
      refine Go_iaddZ (pc' := 10) dX11_feed_9 rfl ?_
      refine Go_sipush (v := iZ 600) (pc' := 13) dX11_feed_10 rfl (by decide) ?_
      refine Go_icmp_leY (tgt := 18) (pc' := 16) dX11_feed_13 (by decide) rfl (by first | exact ⟨i_lo _, i_hi _⟩ | omega) (by first | exact ⟨i_lo _, i_hi _⟩ | omega) (fun c13 => by exfalso; omega) (fun c13 => ?_)
      refine Go_iconst (v := iZ (-1)) (pc' := 17) dX11_feed_16 rfl (by decide) ?_
      refine Go_ireturn (ty := .int) dX11_feed_17 rfl rfl ?_
      exact k
    · show Go G 60 0 0 M_X12_feed 0 [.ref 99, .int a, .int b, .int c, .int e, .int f, un, un] [] h K
      refine Go_aload_n (pc' := 1) dX12_feed_0 rfl rfl rfl ?_
      refine Go_getIv (v := (iZ (n : Int))) (pc' := 4) dX12_feed_1 rfl kf_RX12_203 (by decide) (by decide) rfl (I.S.b 99 rfl rfl) (I.S.o 99 rfl rfl rfl) (en2) ?_
      refine Go_bipush (v := iZ 20) (pc' := 6) dX12_feed_4 rfl (by decide) ?_
      refine Go_iaddZ (pc' := 7) dX12_feed_6 rfl ?_
      refine Go_sipush (v := iZ 600) (pc' := 10) dX12_feed_7 rfl (by decide) ?_
      refine Go_icmp_leY (tgt := 15) (pc' := 13) dX12_feed_10 (by decide) rfl (by first | exact ⟨i_lo _, i_hi _⟩ | omega) (by first | exact ⟨i_lo _, i_hi _⟩ | omega) (fun c10 => by exfalso; omega) (fun c10 => ?_)
      refine Go_iconst (v := iZ (-1)) (pc' := 14) dX12_feed_13 rfl (by decide) ?_
      refine Go_ireturn (ty := .int) dX12_feed_14 rfl rfl ?_
      exact k
