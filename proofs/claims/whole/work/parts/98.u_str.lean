/-! texts: length, charAt, indexOf -/
section
variable {G : GC} {d mc ms : Nat} {M : MI} {pc pc' tgt idx j k : Nat} {lv lv' st : List Value} {h : HS} {K : Option Value → HS → Prop} {X Y : Int}
theorem Go_compactZ (hd : decode M.2.2.1 pc = .ok (.getstatic idx, 3)) (hp : pc + 3 = pc') (hl : Cond.fieldLink M.1 idx "java/lang/String" "COMPACT_STRINGS" "Z" ∈ Tg) (kk : Go G d mc ms M pc' lv (.int (iZ 1) :: st) h K) : Go G d mc ms M pc lv st h K := Go_compact hd hp hl kk
theorem Go_strCoderZ (hd : decode M.2.2.1 pc = .ok (.getfield idx, 3)) (hp : pc + 3 = pc') (hl : Cond.fieldLink M.1 idx "java/lang/String" "coder" "B" ∈ Tg) (hj : j < 15) (kk : Go G d mc ms M pc' lv (.int (iZ 0) :: st) h K) : Go G d mc ms M pc lv (.ref (1 + 2 * j) :: st) h K := Go_strCoder hd hp hl hj kk
theorem Go_strLenZ (hd : decode M.2.2.1 pc = .ok (.arraylength, 1)) (hp : pc + 1 = pc') (hj : j < 15) (kk : Go G d mc ms M pc' lv (.int (iZ ((strT j).length : Int)) :: st) h K) : Go G d mc ms M pc lv (.ref (2 + 2 * j) :: st) h K := Go_strLen hd hp hj (iZ_nat _).symm kk
theorem ln_10 : ∀ j, j < 15 → 2 ≤ (strT j).length ∧ (strT j).length ≤ 10 := by decide
theorem Go_strByteZ (hd : decode M.2.2.1 pc = .ok (.baload, 1)) (hp : pc + 1 = pc') (hj : j < 15) (hX : X = (k : Int)) (hk : k < (strT j).length) (kk : Go G d mc ms M pc' lv (.int ((strT j).getD k 0) :: st) h K) : Go G d mc ms M pc lv (.int (iZ X) :: .ref (2 + 2 * j) :: st) h K := by
  have := (ln_10 j hj).2
  exact Go_strByte hd hp hj (iz_ix hX hk (by omega)) (by rw [iz_cl hX hk (by omega)]) kk
theorem i2c_n : ∀ n, n < 256 → ((nI n).toUInt32 % 65536).toInt32 = nI n := by decide +kernel
theorem Go_i2cZ (hd : decode M.2.2.1 pc = .ok (.i2c, 1)) (hp : pc + 1 = pc') (hX : 0 ≤ X ∧ X ≤ 255) (k : Go G d mc ms M pc' lv (.int (iZ X) :: st) h K) : Go G d mc ms M pc lv (.int (iZ X) :: st) h K := by
  obtain ⟨n, rfl⟩ : ∃ n : Nat, X = (n : Int) := ⟨X.toNat, by omega⟩
  refine Go_i2c hd hp ?_
  rw [iZ_nat, i2c_n n (by omega), ← iZ_nat]; exact k
end
theorem ch_ok : ∀ j, j < 15 → ∀ k, k < (strT j).length → ((((strT j).getD k 0) &&& iZ 255).toUInt32 % 65536).toInt32 = (strT j).getD k 0 := by decide +kernel
theorem shr0 : ∀ j, j < 15 → (iZ ((strT j).length : Int)) >>> (iZ 0 &&& 31) = iZ ((strT j).length : Int) := by decide +kernel
set_option maxRecDepth 20000 in
set_option maxHeartbeats 1000000 in
theorem s_coder {G : GC} {d mc ms : Nat} {h : HS} {K : Option Value → HS → Prop} {j : Nat} (hj : j < 15) (hk : K (some (.int (iZ 0))) h) : Go G d mc ms M_J0_coder_7d493 0 [.ref (1 + 2 * j)] [] h K := by
  refine Go_compactZ (pc' := 3) dJ0_coder_7d493_0 rfl kf_RJ0_38 ?_
  refine Go_if_eqY (tgt := 13) (pc' := 6) dJ0_coder_7d493_3 (by decide) rfl (by first | exact ⟨i_lo _, i_hi _⟩ | omega) (fun c3 => by exfalso; omega) (fun c3 => ?_)
  refine Go_aload_n (pc' := 7) dJ0_coder_7d493_6 rfl rfl rfl ?_
  refine Go_strCoderZ (pc' := 10) dJ0_coder_7d493_7 rfl kf_RJ0_15 hj ?_
  refine Go_goto (tgt := 14) dJ0_coder_7d493_10 (by decide) ?_
  refine Go_ireturn (ty := .byte) dJ0_coder_7d493_14 rfl rfl ?_
  exact hk
set_option maxRecDepth 20000 in
set_option maxHeartbeats 1000000 in
theorem s_isLatin {G : GC} {d mc ms : Nat} {h : HS} {K : Option Value → HS → Prop} {j : Nat} (hj : j < 15) (hk : K (some (.int (iZ 1))) h) : Go G d mc ms M_J0_isLatin1_aae02 0 [.ref (1 + 2 * j)] [] h K := by
  refine Go_compactZ (pc' := 3) dJ0_isLatin1_aae02_0 rfl kf_RJ0_38 ?_
  refine Go_if_eqY (tgt := 17) (pc' := 6) dJ0_isLatin1_aae02_3 (by decide) rfl (by first | exact ⟨i_lo _, i_hi _⟩ | omega) (fun c3 => by exfalso; omega) (fun c3 => ?_)
  refine Go_aload_n (pc' := 7) dJ0_isLatin1_aae02_6 rfl rfl rfl ?_
  refine Go_strCoderZ (pc' := 10) dJ0_isLatin1_aae02_7 rfl kf_RJ0_15 hj ?_
  refine Go_if_neY (tgt := 17) (pc' := 13) dJ0_isLatin1_aae02_10 (by decide) rfl (by first | exact ⟨i_lo _, i_hi _⟩ | omega) (fun c10 => by exfalso; omega) (fun c10 => ?_)
  refine Go_iconst (v := iZ 1) (pc' := 14) dJ0_isLatin1_aae02_13 rfl (by decide) ?_
  refine Go_goto (tgt := 18) dJ0_isLatin1_aae02_14 (by decide) ?_
  refine Go_ireturn (ty := .boolean) dJ0_isLatin1_aae02_18 rfl rfl ?_
  exact hk
set_option maxRecDepth 20000 in
set_option maxHeartbeats 1000000 in
theorem s_slen {G : GC} {d mc ms : Nat} {h : HS} {K : Option Value → HS → Prop} {j : Nat} (hj : j < 15) (hk : K (some (.int (iZ ((strT j).length : Int)))) h) : Go G (d + 1) mc ms M_J0_length_8abf5 0 [.ref (1 + 2 * j)] [] h K := by
  refine Go_aload_n (pc' := 1) dJ0_length_8abf5_0 rfl rfl rfl ?_
  refine Go_strValue (pc' := 4) dJ0_length_8abf5_1 rfl kf_RJ0_9 hj ?_
  refine Go_strLenZ (pc' := 5) dJ0_length_8abf5_4 rfl hj ?_
  refine Go_aload_n (pc' := 6) dJ0_length_8abf5_5 rfl rfl rfl ?_
  refine Go_callVS_i (pc' := 9) (As := []) (st := [.int _]) dJ0_length_8abf5_6 rfl ok_J0_coder_7d493 km_RJ0_335 hj rfl rfl (Nat.le_of_ble_eq_true rfl) rfl rfl rfl (Nat.le_of_ble_eq_true rfl) (Nat.lt_succ_self _) ?_
  refine s_coder hj ?_
  refine ⟨_, rfl, ?_⟩
  refine Go_ishr (pc' := 10) dJ0_length_8abf5_9 rfl ?_
  refine Go_ireturn (ty := .int) dJ0_length_8abf5_10 rfl rfl ?_
  rw [shr0 j hj]; exact hk
set_option maxRecDepth 20000 in
set_option maxHeartbeats 1000000 in
theorem s_ck3n {G : GC} {d mc ms : Nat} {h : HS} {K : Option Value → HS → Prop} {X Y : Int} (hX : 0 ≤ X ∧ X < Y) (hY : Y < 2147483648) (hk : K (some (.int (iZ X))) h) : Go G d mc ms M_J3_checkIndex_8e157 0 [.int (iZ X), .int (iZ Y), .null] [] h K := by
  refine Go_iload_n (pc' := 1) dJ3_checkIndex_8e157_0 rfl rfl rfl ?_
  refine Go_if_ltY (tgt := 9) (pc' := 4) dJ3_checkIndex_8e157_1 (by decide) rfl (by first | exact ⟨i_lo _, i_hi _⟩ | omega) (fun c1 => by exfalso; omega) (fun c1 => ?_)
  refine Go_iload_n (pc' := 5) dJ3_checkIndex_8e157_4 rfl rfl rfl ?_
  refine Go_iload_n (pc' := 6) dJ3_checkIndex_8e157_5 rfl rfl rfl ?_
  refine Go_icmp_ltY (tgt := 16) (pc' := 9) dJ3_checkIndex_8e157_6 (by decide) rfl (by first | exact ⟨i_lo _, i_hi _⟩ | omega) (by first | exact ⟨i_lo _, i_hi _⟩ | omega) (fun c6 => ?_) (fun c6 => by exfalso; omega)
  refine Go_iload_n (pc' := 17) dJ3_checkIndex_8e157_16 rfl rfl rfl ?_
  refine Go_ireturn (ty := .int) dJ3_checkIndex_8e157_17 rfl rfl ?_
  exact hk
set_option maxRecDepth 20000 in
set_option maxHeartbeats 1000000 in
theorem s_ck3r {G : GC} {d mc ms : Nat} {h : HS} {K : Option Value → HS → Prop} {X Y : Int} (hX : 0 ≤ X ∧ X < Y) (hY : Y < 2147483648) (hk : K (some (.int (iZ X))) h) : Go G d mc ms M_J3_checkIndex_8e157 0 [.int (iZ X), .int (iZ Y), .ref 40] [] h K := by
  refine Go_iload_n (pc' := 1) dJ3_checkIndex_8e157_0 rfl rfl rfl ?_
  refine Go_if_ltY (tgt := 9) (pc' := 4) dJ3_checkIndex_8e157_1 (by decide) rfl (by first | exact ⟨i_lo _, i_hi _⟩ | omega) (fun c1 => by exfalso; omega) (fun c1 => ?_)
  refine Go_iload_n (pc' := 5) dJ3_checkIndex_8e157_4 rfl rfl rfl ?_
  refine Go_iload_n (pc' := 6) dJ3_checkIndex_8e157_5 rfl rfl rfl ?_
  refine Go_icmp_ltY (tgt := 16) (pc' := 9) dJ3_checkIndex_8e157_6 (by decide) rfl (by first | exact ⟨i_lo _, i_hi _⟩ | omega) (by first | exact ⟨i_lo _, i_hi _⟩ | omega) (fun c6 => ?_) (fun c6 => by exfalso; omega)
  refine Go_iload_n (pc' := 17) dJ3_checkIndex_8e157_16 rfl rfl rfl ?_
  refine Go_ireturn (ty := .int) dJ3_checkIndex_8e157_17 rfl rfl ?_
  exact hk
set_option maxRecDepth 20000 in
set_option maxHeartbeats 1000000 in
theorem s_ck {G : GC} {d mc ms : Nat} {h : HS} {K : Option Value → HS → Prop} {X Y : Int} (hX : 0 ≤ X ∧ X < Y) (hY : Y < 2147483648) (hk : K none h) : Go G (d + 1) mc ms M_J0_checkIndex_df160 0 [.int (iZ X), .int (iZ Y)] [] h K := by
  by_cases e : gx G 41 = 0
  · have ef : fmV G = .null := if_pos e
    refine Go_iload_n (pc' := 1) dJ0_checkIndex_df160_0 rfl rfl rfl ?_
    refine Go_iload_n (pc' := 2) dJ0_checkIndex_df160_1 rfl rfl rfl ?_
    refine Go_formatter (pc' := 5) dJ0_checkIndex_df160_2 rfl kf_RJ0_1053 ?_
    rw [ef]
    refine Go_callS_i (pc' := 8) (As := [.int _, .int _, .null]) (st := []) dJ0_checkIndex_df160_5 rfl ok_J3_checkIndex_8e157 km_RJ0_1059 rfl (Nat.le_of_ble_eq_true rfl) rfl rfl rfl (Nat.le_of_ble_eq_true rfl) (Nat.lt_succ_self _) ?_
    refine s_ck3n hX hY ?_
    refine ⟨_, rfl, ?_⟩
    refine Go_pop (pc' := 9) dJ0_checkIndex_df160_8 rfl rfl ?_
    refine Go_return dJ0_checkIndex_df160_9 rfl ?_
    exact hk
  · have ef : fmV G = .ref 40 := if_neg e
    refine Go_iload_n (pc' := 1) dJ0_checkIndex_df160_0 rfl rfl rfl ?_
    refine Go_iload_n (pc' := 2) dJ0_checkIndex_df160_1 rfl rfl rfl ?_
    refine Go_formatter (pc' := 5) dJ0_checkIndex_df160_2 rfl kf_RJ0_1053 ?_
    rw [ef]
    refine Go_callS_i (pc' := 8) (As := [.int _, .int _, .ref _]) (st := []) dJ0_checkIndex_df160_5 rfl ok_J3_checkIndex_8e157 km_RJ0_1059 rfl (Nat.le_of_ble_eq_true rfl) rfl rfl rfl (Nat.le_of_ble_eq_true rfl) (Nat.lt_succ_self _) ?_
    refine s_ck3r hX hY ?_
    refine ⟨_, rfl, ?_⟩
    refine Go_pop (pc' := 9) dJ0_checkIndex_df160_8 rfl rfl ?_
    refine Go_return dJ0_checkIndex_df160_9 rfl ?_
    exact hk
theorem ch_nar : ∀ j, j < 15 → ∀ k, k < (strT j).length → narrow .char (.int ((strT j).getD k 0)) = .int ((strT j).getD k 0) := by decide +kernel
set_option maxRecDepth 20000 in
set_option maxHeartbeats 1000000 in
theorem s_ch1 {G : GC} {d mc ms : Nat} {h : HS} {K : Option Value → HS → Prop} {j k : Nat} (hj : j < 15) (hkk : k < (strT j).length) (hk : K (some (.int ((strT j).getD k 0))) h) : Go G (d + 2) mc ms M_J1_charAt_3b067 0 [.ref (2 + 2 * j), .int (iZ (k : Int))] [] h K := by
  have l10 := ln_10 j hj
  refine Go_iload_n (pc' := 1) dJ1_charAt_3b067_0 rfl rfl rfl ?_
  refine Go_aload_n (pc' := 2) dJ1_charAt_3b067_1 rfl rfl rfl ?_
  refine Go_strLenZ (pc' := 3) dJ1_charAt_3b067_2 rfl hj ?_
  refine Go_callS_v (pc' := 6) (As := [.int _, .int _]) (st := []) dJ1_charAt_3b067_3 rfl ok_J0_checkIndex_df160 km_RJ1_9 rfl (Nat.le_of_ble_eq_true rfl) rfl rfl rfl (Nat.le_of_ble_eq_true rfl) (Nat.lt_succ_self _) ?_
  refine s_ck (by omega) (by omega) ?_
  refine ⟨rfl, ?_⟩
  refine Go_aload_n (pc' := 7) dJ1_charAt_3b067_6 rfl rfl rfl ?_
  refine Go_iload_n (pc' := 8) dJ1_charAt_3b067_7 rfl rfl rfl ?_
  refine Go_strByteZ (k := k) (pc' := 9) dJ1_charAt_3b067_8 rfl hj rfl (by omega) ?_
  refine Go_sipush (v := iZ 255) (pc' := 12) dJ1_charAt_3b067_9 rfl (by decide) ?_
  refine Go_iand (pc' := 13) dJ1_charAt_3b067_12 rfl ?_
  refine Go_i2c (pc' := 14) dJ1_charAt_3b067_13 rfl ?_
  refine Go_ireturn (ty := .char) dJ1_charAt_3b067_14 rfl (by rw [ch_ok j hj k hkk]; exact ch_nar j hj k hkk) ?_
  rw [ch_ok j hj k hkk]; exact hk
set_option maxRecDepth 20000 in
set_option maxHeartbeats 1000000 in
theorem s_charAt {G : GC} {d mc ms : Nat} {h : HS} {K : Option Value → HS → Prop} {j k : Nat} (hj : j < 15) (hkk : k < (strT j).length) (hk : K (some (.int ((strT j).getD k 0))) h) : Go G (d + 3) mc ms M_J0_charAt_5068e 0 [.ref (1 + 2 * j), .int (iZ (k : Int))] [] h K := by
  refine Go_aload_n (pc' := 1) dJ0_charAt_5068e_0 rfl rfl rfl ?_
  refine Go_callVS_i (pc' := 4) (As := []) (st := []) dJ0_charAt_5068e_1 rfl ok_J0_isLatin1_aae02 km_RJ0_492 hj rfl rfl (Nat.le_of_ble_eq_true rfl) rfl rfl rfl (Nat.le_of_ble_eq_true rfl) (Nat.lt_succ_self _) ?_
  refine s_isLatin hj ?_
  refine ⟨_, rfl, ?_⟩
  refine Go_if_eqY (tgt := 16) (pc' := 7) dJ0_charAt_5068e_4 (by decide) rfl (by first | exact ⟨i_lo _, i_hi _⟩ | omega) (fun c4 => by exfalso; omega) (fun c4 => ?_)
  refine Go_aload_n (pc' := 8) dJ0_charAt_5068e_7 rfl rfl rfl ?_
  refine Go_strValue (pc' := 11) dJ0_charAt_5068e_8 rfl kf_RJ0_9 hj ?_
  refine Go_iload_n (pc' := 12) dJ0_charAt_5068e_11 rfl rfl rfl ?_
  refine Go_callS_i (pc' := 15) (As := [.ref _, .int _]) (st := []) dJ0_charAt_5068e_12 rfl ok_J1_charAt_3b067 km_RJ0_495 rfl (Nat.le_of_ble_eq_true rfl) rfl rfl rfl (Nat.le_of_ble_eq_true rfl) (Nat.lt_succ_self _) ?_
  refine s_ch1 hj hkk ?_
  refine ⟨_, rfl, ?_⟩
  refine Go_ireturn (ty := .char) dJ0_charAt_5068e_15 rfl (ch_nar j hj k hkk) ?_
  exact hk
/-- the signs -/
def sgL : List Nat := [59, 43, 45, 42, 47, 40, 41, 60, 61, 62]
abbrev sgn (X : Int) : Prop := X = 59 ∨ X = 43 ∨ X = 45 ∨ X = 42 ∨ X = 47 ∨ X = 40 ∨ X = 41 ∨ X = 60 ∨ X = 61 ∨ X = 62
theorem i2b_n : ∀ n, n < 256 → ∀ i, i < 10 → ((strT 14).getD i 0 = (nI n).toInt8.toInt32 ↔ n = sgL.getD i 0) := by decide +kernel
theorem sg_in : ∀ i, i < 10 → sgn (sgL.getD i 0 : Nat) := by decide
theorem sg_no {n : Nat} (h : ∀ i, i < 10 → ¬ n = sgL.getD i 0) : ¬ sgn (n : Int) := by
  have h0 := h 0 (by omega); have h1 := h 1 (by omega); have h2 := h 2 (by omega); have h3 := h 3 (by omega); have h4 := h 4 (by omega)
  have h5 := h 5 (by omega); have h6 := h 6 (by omega); have h7 := h 7 (by omega); have h8 := h 8 (by omega); have h9 := h 9 (by omega)
  simp [sgL] at h0 h1 h2 h3 h4 h5 h6 h7 h8 h9
  omega
set_option maxRecDepth 20000 in
set_option maxHeartbeats 1000000 in
theorem ix_loop {G : GC} {d mc ms : Nat} {h : HS} {K : Option Value → HS → Prop} {j n : Nat} (hj : j < 15) (h14 : j = 14) (hn : n < 256) (hk : ∀ R : Int, (-1 ≤ R ∧ R ≤ 9) → (0 ≤ R ↔ sgn (n : Int)) → K (some (.int (iZ R))) h) : ∀ (m i : Nat), i + m = 10 → (∀ k, k < i → ¬ n = sgL.getD k 0) → Go G d mc ms M_J1_indexOfChar_4cfef 7 [.ref (2 + 2 * j), .int (iZ (n : Int)), .int (iZ 0), .int (iZ 10), .int ((iZ (n : Int)).toInt8.toInt32), .int (iZ (i : Int))] [] h K := by
  intro m
  induction m with
  | zero =>
    intro i hm hno
    refine Go_iload (pc' := 9) dJ1_indexOfChar_4cfef_7 rfl rfl ?_
    refine Go_iload_n (pc' := 10) dJ1_indexOfChar_4cfef_9 rfl rfl rfl ?_
    refine Go_icmp_geY (tgt := 31) (pc' := 13) dJ1_indexOfChar_4cfef_10 (by decide) rfl (by first | exact ⟨i_lo _, i_hi _⟩ | omega) (by first | exact ⟨i_lo _, i_hi _⟩ | omega) (fun c10 => ?_) (fun c10 => by exfalso; omega)
    refine Go_iconst (v := iZ (-1)) (pc' := 32) dJ1_indexOfChar_4cfef_31 rfl (by decide) ?_
    refine Go_ireturn (ty := .int) dJ1_indexOfChar_4cfef_32 rfl rfl ?_
    exact hk (-1) (by omega) ⟨fun z => (by omega), fun z => absurd z (sg_no (fun k hk => hno k (by omega)))⟩
  | succ m ih =>
    intro i hm hno
    have hi : i < (strT 14).length := by show i < 10; omega
    have hb := i2b_n n hn i (by omega)
    rw [← iZ_nat] at hb
    refine Go_iload (pc' := 9) dJ1_indexOfChar_4cfef_7 rfl rfl ?_
    refine Go_iload_n (pc' := 10) dJ1_indexOfChar_4cfef_9 rfl rfl rfl ?_
    refine Go_icmp_geY (tgt := 31) (pc' := 13) dJ1_indexOfChar_4cfef_10 (by decide) rfl (by first | exact ⟨i_lo _, i_hi _⟩ | omega) (by first | exact ⟨i_lo _, i_hi _⟩ | omega) (fun c10 => by exfalso; omega) (fun c10 => ?_)
    refine Go_aload_n (pc' := 14) dJ1_indexOfChar_4cfef_13 rfl rfl rfl ?_
    refine Go_iload (pc' := 16) dJ1_indexOfChar_4cfef_14 rfl rfl ?_
    refine Go_strByteZ (k := i) (pc' := 17) dJ1_indexOfChar_4cfef_16 rfl hj rfl (by rw [h14]; exact hi) ?_
    refine Go_iload (pc' := 19) dJ1_indexOfChar_4cfef_17 rfl rfl ?_
    refine Go_icmp_ne (tgt := 25) (pc' := 22) dJ1_indexOfChar_4cfef_19 (by decide) rfl (fun c19 => ?_) (fun c19 => ?_)
    · refine Go_iincZ (pc' := 28) (lv' := [.ref _, .int _, .int _, .int _, .int _, .int _]) dJ1_indexOfChar_4cfef_25 rfl rfl (Nat.le_of_ble_eq_true rfl) rfl rfl ?_
      refine Go_goto (tgt := 7) dJ1_indexOfChar_4cfef_28 (by decide) ?_
      rw [h14] at c19
      refine ih (i + 1) (by omega) (fun k hk1 => ?_)
      by_cases e : k = i
      · rw [e]; exact fun z => c19 (hb.2 z)
      · exact hno k (by omega)
    · refine Go_iload (pc' := 24) dJ1_indexOfChar_4cfef_22 rfl rfl ?_
      refine Go_ireturn (ty := .int) dJ1_indexOfChar_4cfef_24 rfl rfl ?_
      rw [h14] at c19
      refine hk (i : Int) (by omega) ⟨fun _ => ?_, fun _ => (by omega)⟩
      rw [hb.1 c19]; exact sg_in i (by omega)
set_option maxRecDepth 20000 in
set_option maxHeartbeats 1000000 in
theorem s_ixc {G : GC} {d mc ms : Nat} {h : HS} {K : Option Value → HS → Prop} {j n : Nat} (hj : j < 15) (h14 : j = 14) (hn : n < 256) (hk : ∀ R : Int, (-1 ≤ R ∧ R ≤ 9) → (0 ≤ R ↔ sgn (n : Int)) → K (some (.int (iZ R))) h) : Go G d mc ms M_J1_indexOfChar_4cfef 0 [.ref (2 + 2 * j), .int (iZ (n : Int)), .int (iZ 0), .int (iZ 10), un, un] [] h K := by
  refine Go_iload_n (pc' := 1) dJ1_indexOfChar_4cfef_0 rfl rfl rfl ?_
  refine Go_i2b (pc' := 2) dJ1_indexOfChar_4cfef_1 rfl ?_
  refine Go_istore (pc' := 4) (lv' := [.ref _, .int _, .int _, .int _, .int _, un]) dJ1_indexOfChar_4cfef_2 rfl (Nat.le_of_ble_eq_true rfl) rfl rfl ?_
  refine Go_iload_n (pc' := 5) dJ1_indexOfChar_4cfef_4 rfl rfl rfl ?_
  refine Go_istore (pc' := 7) (lv' := [.ref _, .int _, .int _, .int _, .int _, .int _]) dJ1_indexOfChar_4cfef_5 rfl (Nat.le_of_ble_eq_true rfl) rfl rfl ?_
  exact ix_loop hj h14 hn hk 10 0 (by omega) (fun k hk => by omega)
set_option maxRecDepth 20000 in
set_option maxHeartbeats 1000000 in
theorem s_ix1 {G : GC} {d mc ms : Nat} {h : HS} {K : Option Value → HS → Prop} {j n : Nat} (hj : j < 15) (h14 : j = 14) (hn : n < 256) (hk : ∀ R : Int, (-1 ≤ R ∧ R ≤ 9) → (0 ≤ R ↔ sgn (n : Int)) → K (some (.int (iZ R))) h) : Go G (d + 1) mc ms M_J1_indexOf_4cfef 0 [.ref (2 + 2 * j), .int (iZ (n : Int)), .int (iZ 0), .int (iZ 10)] [] h K := by
  have l10 := ln_10 j hj
  refine Go_iload_n (pc' := 1) dJ1_indexOf_4cfef_0 rfl rfl rfl ?_
  refine Go_callS_i (pc' := 4) (As := [.int _]) (st := []) dJ1_indexOf_4cfef_1 rfl ok_J1_canEncode_9a6ad km_RJ1_88 rfl (Nat.le_of_ble_eq_true rfl) rfl rfl rfl (Nat.le_of_ble_eq_true rfl) (Nat.lt_succ_self _) ?_
  refine Go_iload_n (pc' := 1) dJ1_canEncode_9a6ad_0 rfl rfl rfl ?_
  refine Go_if_ltY (tgt := 15) (pc' := 4) dJ1_canEncode_9a6ad_1 (by decide) rfl (by first | exact ⟨i_lo _, i_hi _⟩ | omega) (fun e1 => by exfalso; omega) (fun e1 => ?_)
  refine Go_iload_n (pc' := 5) dJ1_canEncode_9a6ad_4 rfl rfl rfl ?_
  refine Go_sipush (v := iZ 255) (pc' := 8) dJ1_canEncode_9a6ad_5 rfl (by decide) ?_
  refine Go_icmp_gtY (tgt := 15) (pc' := 11) dJ1_canEncode_9a6ad_8 (by decide) rfl (by first | exact ⟨i_lo _, i_hi _⟩ | omega) (by first | exact ⟨i_lo _, i_hi _⟩ | omega) (fun e8 => by exfalso; omega) (fun e8 => ?_)
  refine Go_iconst (v := iZ 1) (pc' := 12) dJ1_canEncode_9a6ad_11 rfl (by decide) ?_
  refine Go_goto (tgt := 16) dJ1_canEncode_9a6ad_12 (by decide) ?_
  refine Go_ireturn (ty := .boolean) dJ1_canEncode_9a6ad_16 rfl rfl ?_
  refine ⟨_, rfl, ?_⟩
  refine Go_if_neY (tgt := 9) (pc' := 7) dJ1_indexOf_4cfef_4 (by decide) rfl (by first | exact ⟨i_lo _, i_hi _⟩ | omega) (fun c4 => ?_) (fun c4 => by exfalso; omega)
  refine Go_iload_n (pc' := 10) dJ1_indexOf_4cfef_9 rfl rfl rfl ?_
  refine Go_iconst (v := iZ 0) (pc' := 11) dJ1_indexOf_4cfef_10 rfl (by decide) ?_
  refine Go_callS_i (pc' := 14) (As := [.int _, .int _]) (st := []) dJ1_indexOf_4cfef_11 rfl ok_J9_max_7cf53 km_RJ1_92 rfl (Nat.le_of_ble_eq_true rfl) rfl rfl rfl (Nat.le_of_ble_eq_true rfl) (Nat.lt_succ_self _) ?_
  refine s_maxY (by omega) (by omega) ?_
  rw [show max (0 : Int) 0 = 0 from rfl]
  refine ⟨_, rfl, ?_⟩
  refine Go_istore_n (pc' := 15) (lv' := [.ref _, .int _, .int _, .int _]) dJ1_indexOf_4cfef_14 rfl rfl (Nat.le_of_ble_eq_true rfl) rfl rfl ?_
  refine Go_iload_n (pc' := 16) dJ1_indexOf_4cfef_15 rfl rfl rfl ?_
  refine Go_aload_n (pc' := 17) dJ1_indexOf_4cfef_16 rfl rfl rfl ?_
  refine Go_strLenZ (pc' := 18) dJ1_indexOf_4cfef_17 rfl hj ?_
  refine Go_callS_i (pc' := 21) (As := [.int _, .int _]) (st := []) dJ1_indexOf_4cfef_18 rfl ok_J9_min_7cf53 km_RJ1_38 rfl (Nat.le_of_ble_eq_true rfl) rfl rfl rfl (Nat.le_of_ble_eq_true rfl) (Nat.lt_succ_self _) ?_
  refine s_minY (by omega) (by omega) ?_
  rw [show min (10 : Int) ((strT j).length : Int) = 10 by rw [h14]; rfl]
  refine ⟨_, rfl, ?_⟩
  refine Go_istore_n (pc' := 22) (lv' := [.ref _, .int _, .int _, .int _]) dJ1_indexOf_4cfef_21 rfl rfl (Nat.le_of_ble_eq_true rfl) rfl rfl ?_
  refine Go_iload_n (pc' := 23) dJ1_indexOf_4cfef_22 rfl rfl rfl ?_
  refine Go_iload_n (pc' := 24) dJ1_indexOf_4cfef_23 rfl rfl rfl ?_
  refine Go_icmp_ltY (tgt := 29) (pc' := 27) dJ1_indexOf_4cfef_24 (by decide) rfl (by first | exact ⟨i_lo _, i_hi _⟩ | omega) (by first | exact ⟨i_lo _, i_hi _⟩ | omega) (fun c24 => ?_) (fun c24 => by exfalso; omega)
  refine Go_aload_n (pc' := 30) dJ1_indexOf_4cfef_29 rfl rfl rfl ?_
  refine Go_iload_n (pc' := 31) dJ1_indexOf_4cfef_30 rfl rfl rfl ?_
  refine Go_iload_n (pc' := 32) dJ1_indexOf_4cfef_31 rfl rfl rfl ?_
  refine Go_iload_n (pc' := 33) dJ1_indexOf_4cfef_32 rfl rfl rfl ?_
  refine Go_callS_i (pc' := 36) (As := [.ref _, .int _, .int _, .int _]) (st := []) dJ1_indexOf_4cfef_33 rfl ok_J1_indexOfChar_4cfef km_RJ1_95 rfl (Nat.le_of_ble_eq_true rfl) rfl rfl rfl (Nat.le_of_ble_eq_true rfl) (Nat.lt_succ_self _) ?_
  refine s_ixc hj h14 hn (fun R r1 r2 => ?_)
  refine ⟨_, rfl, ?_⟩
  refine Go_ireturn (ty := .int) dJ1_indexOf_4cfef_36 rfl rfl ?_
  exact hk R r1 r2
set_option maxRecDepth 20000 in
set_option maxHeartbeats 1000000 in
theorem s_ix2 {G : GC} {d mc ms : Nat} {h : HS} {K : Option Value → HS → Prop} {j n : Nat} (hj : j < 15) (h14 : j = 14) (hn : n < 256) (hk : ∀ R : Int, (-1 ≤ R ∧ R ≤ 9) → (0 ≤ R ↔ sgn (n : Int)) → K (some (.int (iZ R))) h) : Go G (d + 2) mc ms M_J0_indexOf_7cf53 0 [.ref (1 + 2 * j), .int (iZ (n : Int)), .int (iZ 0)] [] h K := by
  refine Go_aload_n (pc' := 1) dJ0_indexOf_7cf53_0 rfl rfl rfl ?_
  refine Go_callVS_i (pc' := 4) (As := []) (st := []) dJ0_indexOf_7cf53_1 rfl ok_J0_isLatin1_aae02 km_RJ0_492 hj rfl rfl (Nat.le_of_ble_eq_true rfl) rfl rfl rfl (Nat.le_of_ble_eq_true rfl) (Nat.lt_succ_self _) ?_
  refine s_isLatin hj ?_
  refine ⟨_, rfl, ?_⟩
  refine Go_if_eqY (tgt := 23) (pc' := 7) dJ0_indexOf_7cf53_4 (by decide) rfl (by first | exact ⟨i_lo _, i_hi _⟩ | omega) (fun c4 => by exfalso; omega) (fun c4 => ?_)
  refine Go_aload_n (pc' := 8) dJ0_indexOf_7cf53_7 rfl rfl rfl ?_
  refine Go_strValue (pc' := 11) dJ0_indexOf_7cf53_8 rfl kf_RJ0_9 hj ?_
  refine Go_iload_n (pc' := 12) dJ0_indexOf_7cf53_11 rfl rfl rfl ?_
  refine Go_iload_n (pc' := 13) dJ0_indexOf_7cf53_12 rfl rfl rfl ?_
  refine Go_aload_n (pc' := 14) dJ0_indexOf_7cf53_13 rfl rfl rfl ?_
  refine Go_callVS_i (pc' := 17) (As := []) (st := [.int _, .int _, .ref _]) dJ0_indexOf_7cf53_14 rfl ok_J0_length_8abf5 km_RJ0_505 hj rfl rfl (Nat.le_of_ble_eq_true rfl) rfl rfl rfl (Nat.le_of_ble_eq_true rfl) (Nat.lt_succ_self _) ?_
  refine s_slen hj ?_
  rw [show ((strT j).length : Int) = 10 by rw [h14]; rfl]
  refine ⟨_, rfl, ?_⟩
  refine Go_callS_i (pc' := 20) (As := [.ref _, .int _, .int _, .int _]) (st := []) dJ0_indexOf_7cf53_17 rfl ok_J1_indexOf_4cfef km_RJ0_637 rfl (Nat.le_of_ble_eq_true rfl) rfl rfl rfl (Nat.le_of_ble_eq_true rfl) (Nat.lt_succ_self _) ?_
  refine s_ix1 hj h14 hn (fun R r1 r2 => ?_)
  refine ⟨_, rfl, ?_⟩
  refine Go_goto (tgt := 36) dJ0_indexOf_7cf53_20 (by decide) ?_
  refine Go_ireturn (ty := .int) dJ0_indexOf_7cf53_36 rfl rfl ?_
  exact hk R r1 r2
set_option maxRecDepth 20000 in
set_option maxHeartbeats 1000000 in
theorem s_indexOf {G : GC} {d mc ms : Nat} {h : HS} {K : Option Value → HS → Prop} {j n : Nat} (hj : j < 15) (h14 : j = 14) (hn : n < 256) (hk : ∀ R : Int, (-1 ≤ R ∧ R ≤ 9) → (0 ≤ R ↔ sgn (n : Int)) → K (some (.int (iZ R))) h) : Go G (d + 3) mc ms M_J0_indexOf_0f7a4 0 [.ref (1 + 2 * j), .int (iZ (n : Int))] [] h K := by
  refine Go_aload_n (pc' := 1) dJ0_indexOf_0f7a4_0 rfl rfl rfl ?_
  refine Go_iload_n (pc' := 2) dJ0_indexOf_0f7a4_1 rfl rfl rfl ?_
  refine Go_iconst (v := iZ 0) (pc' := 3) dJ0_indexOf_0f7a4_2 rfl (by decide) ?_
  refine Go_callVS_i (pc' := 6) (As := [.int _, .int _]) (st := []) dJ0_indexOf_0f7a4_3 rfl ok_J0_indexOf_7cf53 km_RJ0_633 hj rfl rfl (Nat.le_of_ble_eq_true rfl) rfl rfl rfl (Nat.le_of_ble_eq_true rfl) (Nat.lt_succ_self _) ?_
  refine s_ix2 hj h14 hn (fun R r1 r2 => ?_)
  refine ⟨_, rfl, ?_⟩
  refine Go_ireturn (ty := .int) dJ0_indexOf_0f7a4_6 rfl rfl ?_
  exact hk R r1 r2
