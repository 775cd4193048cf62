/-! pair: parted -/
theorem bitA : ∀ T, T < 256 → ∀ p, p < 8 → (iZ ((T : Nat) : Int) >>> (iZ ((p : Nat) : Int) &&& 31)) &&& iZ 1 = iZ (((T / 2 ^ p % 2 : Nat)) : Int) := by decide +kernel
theorem orA : ∀ T, T < 256 → ∀ p, p < 8 → iZ ((T : Nat) : Int) ||| (iZ 1 <<< (iZ ((p : Nat) : Int) &&& 31)) = iZ (((T ||| 2 ^ p : Nat)) : Int) := by decide +kernel
theorem orB : ∀ T, T < 256 → ∀ p, p < 8 → (T ||| 2 ^ p) < 256 := by decide +kernel
def popc (T : Nat) : Nat := (List.range 8).foldl (fun a k => a + T / 2 ^ k % 2) 0
theorem popA : ∀ T, T < 256 → ∀ p, p < 8 → T / 2 ^ p % 2 = 0 → popc (T ||| 2 ^ p) = popc T + 1 := by decide +kernel
theorem popB : ∀ T, T < 256 → ∀ p, p < 8 → ∀ s, s < 8 → p ≠ s → (T ||| 2 ^ p) / 2 ^ s % 2 = T / 2 ^ s % 2 := by decide +kernel
theorem popC : ∀ T, T < 256 → 8 ≤ popc T → ∀ p, p < 8 → T / 2 ^ p % 2 = 1 := by decide +kernel
def ffr (T : Nat) : Nat → Nat → Nat
  | 0, p => p
  | m + 1, p => if T / 2 ^ p % 2 = 1 then ffr T m (p + 1) else p
theorem ffr_t {T m p : Nat} (h : T / 2 ^ p % 2 = 1) : ffr T (m + 1) p = ffr T m (p + 1) := by show (if _ then _ else _) = _; rw [if_pos h]
theorem ffr_f {T m p : Nat} (h : ¬ T / 2 ^ p % 2 = 1) : ffr T (m + 1) p = p := by show (if _ then _ else _) = _; rw [if_neg h]
theorem ffr_sp (T : Nat) : ∀ m p, p ≤ ffr T m p ∧ ffr T m p ≤ p + m ∧ (ffr T m p < p + m → T / 2 ^ (ffr T m p) % 2 = 0)
  | 0, p => ⟨Nat.le_refl _, Nat.le_refl _, fun h => by exact absurd h (Nat.lt_irrefl _)⟩
  | m + 1, p => by
    by_cases c : T / 2 ^ p % 2 = 1
    · rw [ffr_t c]
      obtain ⟨a, b, e⟩ := ffr_sp T m (p + 1)
      exact ⟨by omega, by omega, fun h => e (by omega)⟩
    · rw [ffr_f c]; exact ⟨Nat.le_refl _, by omega, fun _ => by omega⟩
theorem ffr_full {T : Nat} (hT : T < 256) (hp : 8 ≤ popc T) : ∀ m p, p + m ≤ 8 → ffr T m p = p + m
  | 0, p, _ => rfl
  | m + 1, p, h => by rw [ffr_t (popC T hT hp p (by omega)), ffr_full hT hp m (p + 1) (by omega)]; omega
def swr (W : Nat → Int) (t : Nat → Int) (w : Int) (T p : Nat) : Nat → Nat → Int → Int
  | 0, _, a => a
  | m + 1, s, a => swr W t w T p m (s + 1) (if T / 2 ^ s % 2 = 0 ∧ t s - t p ≤ w then a + W ((T ||| 2 ^ p) ||| 2 ^ s) else a)
theorem swr_t {W : Nat → Int} {t : Nat → Int} {w : Int} {T p m s : Nat} {a : Int} (h : T / 2 ^ s % 2 = 0 ∧ t s - t p ≤ w) : swr W t w T p (m + 1) s a = swr W t w T p m (s + 1) (a + W ((T ||| 2 ^ p) ||| 2 ^ s)) := by show swr W t w T p m (s + 1) (if _ then _ else _) = _; rw [if_pos h]
theorem swr_f {W : Nat → Int} {t : Nat → Int} {w : Int} {T p m s : Nat} {a : Int} (h : ¬ (T / 2 ^ s % 2 = 0 ∧ t s - t p ≤ w)) : swr W t w T p (m + 1) s a = swr W t w T p m (s + 1) a := by show swr W t w T p m (s + 1) (if _ then _ else _) = _; rw [if_neg h]
def ways (n : Nat) (t : Nat → Int) (w : Int) : Nat → Nat → Int
  | 0, _ => 1
  | f + 1, T => if ffr T n 0 = n then 1 else swr (ways n t w f) t w T (ffr T n 0) (n - (ffr T n 0 + 1)) (ffr T n 0 + 1) 0
theorem ways_t {n : Nat} {t : Nat → Int} {w : Int} {f T : Nat} (h : ffr T n 0 = n) : ways n t w (f + 1) T = 1 := by show (if _ then _ else _) = _; rw [if_pos h]
theorem ways_f {n : Nat} {t : Nat → Int} {w : Int} {f T : Nat} (h : ¬ ffr T n 0 = n) : ways n t w (f + 1) T = swr (ways n t w f) t w T (ffr T n 0) (n - (ffr T n 0 + 1)) (ffr T n 0 + 1) 0 := by show (if _ then _ else _) = _; rw [if_neg h]
set_option maxRecDepth 20000 in
set_option maxHeartbeats 1000000 in
theorem ff_loopC {G : GC} {d : Nat} {h : HS} {K : Option Value → HS → Prop} {n T : Nat} {w k : Int} (Sh : Shp h) (hn : n ≤ 8) (hT : T < 256) : ∀ (m p : Nat), p + m = n → Go G d 0 0 M_X10_waysFrom 25 [.ref 82, .int (iZ (n : Int)), .int (iZ (T : Int)), .int (iZ w), .int (iZ k), .int (iZ ((ffr T m p : Nat) : Int)), un, un] [] h K → Go G d 0 0 M_X10_waysFrom 3 [.ref 82, .int (iZ (n : Int)), .int (iZ (T : Int)), .int (iZ w), .int (iZ k), .int (iZ (p : Int)), un, un] [] h K := by
  intro m
  induction m with
  | zero =>
    intro p hp hx
    refine Go_iload (pc' := 5) dX10_waysFrom_3 rfl rfl ?_
    refine Go_iload_n (pc' := 6) dX10_waysFrom_5 rfl rfl rfl ?_
    refine Go_icmp_geY (tgt := 25) (pc' := 9) dX10_waysFrom_6 (by decide) rfl (by first | exact ⟨i_lo _, i_hi _⟩ | omega) (by first | exact ⟨i_lo _, i_hi _⟩ | omega) (fun c6 => ?_) (fun c6 => by exfalso; omega)
    exact hx
  | succ m ih =>
    intro p hp hx
    refine Go_iload (pc' := 5) dX10_waysFrom_3 rfl rfl ?_
    refine Go_iload_n (pc' := 6) dX10_waysFrom_5 rfl rfl rfl ?_
    refine Go_icmp_geY (tgt := 25) (pc' := 9) dX10_waysFrom_6 (by decide) rfl (by first | exact ⟨i_lo _, i_hi _⟩ | omega) (by first | exact ⟨i_lo _, i_hi _⟩ | omega) (fun c6 => by exfalso; omega) (fun c6 => ?_)
    refine Go_iload_n (pc' := 10) dX10_waysFrom_9 rfl rfl rfl ?_
    refine Go_iload (pc' := 12) dX10_waysFrom_10 rfl rfl ?_
    refine Go_ishr (pc' := 13) dX10_waysFrom_12 rfl ?_
    refine Go_iconst (v := iZ 1) (pc' := 14) dX10_waysFrom_13 rfl (by decide) ?_
    refine Go_iand (pc' := 15) dX10_waysFrom_14 rfl ?_
    rw [bitA T hT p (by omega)]
    refine Go_iconst (v := iZ 1) (pc' := 16) dX10_waysFrom_15 rfl (by decide) ?_
    refine Go_icmp_neY (tgt := 25) (pc' := 19) dX10_waysFrom_16 (by decide) rfl (by first | exact ⟨i_lo _, i_hi _⟩ | omega) (by first | exact ⟨i_lo _, i_hi _⟩ | omega) (fun c16 => ?_) (fun c16 => ?_)
    · rw [ffr_f (by omega)] at hx; exact hx
    · refine Go_iincZ (pc' := 22) (lv' := [.ref _, .int _, .int _, .int _, .int _, .int _, un, un]) dX10_waysFrom_19 rfl rfl (Nat.le_of_ble_eq_true rfl) rfl rfl ?_
      refine Go_goto (tgt := 3) dX10_waysFrom_22 (by decide) ?_
      rw [ffr_t (by omega)] at hx
      exact ih (p + 1) (by omega) hx
set_option maxRecDepth 20000 in
set_option maxHeartbeats 1000000 in
theorem sw_loopC {G : GC} {d : Nat} {h : HS} {K : Option Value → HS → Prop} {n T : Nat} {w k : Int} (Sh : Shp h) (hn : n ≤ 8) (hT : T < 256) {f p : Nat} (ts : ∀ i, i < n → 0 ≤ (vi h 82 i).toInt ∧ (vi h 82 i).toInt ≤ 9999999) (hw : 0 ≤ w ∧ w ≤ 9999) (hpn : p < n) (hb : T / 2 ^ p % 2 = 0) (hf3 : f + 1 ≤ 4) (hpc : 8 ≤ popc T + 2 * (f + 1)) (hkf : k + ((f + 1 : Nat) : Int) = 4) (IH : ∀ (T : Nat), T < 256 → 8 ≤ popc T + 2 * f → ∀ (k : Int), k + f = 4 → ∀ (K : Option Value → HS → Prop), K (some (.int (iZ ((ways n (fun i => (vi h 82 i).toInt) w f) T)))) h → Go G (d + f) 0 0 M_X10_waysFrom 0 [.ref 82, .int (iZ (n : Int)), .int (iZ (T : Int)), .int (iZ w), .int (iZ k), un, un, un] [] h K) : ∀ (m s : Nat) (a : Int), s + m = n → p < s → K (some (.int (iZ (swr (ways n (fun i => (vi h 82 i).toInt) w f) (fun i => (vi h 82 i).toInt) w T p m s a)))) h → Go G (d + (f + 1)) 0 0 M_X10_waysFrom 49 [.ref 82, .int (iZ (n : Int)), .int (iZ (T : Int)), .int (iZ w), .int (iZ k), .int (iZ (p : Int)), .int (iZ a), .int (iZ (s : Int))] [] h K := by
  have tp := ts p hpn
  intro m
  induction m with
  | zero =>
    intro s a hs hps hk
    refine Go_iload (pc' := 51) dX10_waysFrom_49 rfl rfl ?_
    refine Go_iload_n (pc' := 52) dX10_waysFrom_51 rfl rfl rfl ?_
    refine Go_icmp_geY (tgt := 125) (pc' := 55) dX10_waysFrom_52 (by decide) rfl (by first | exact ⟨i_lo _, i_hi _⟩ | omega) (by first | exact ⟨i_lo _, i_hi _⟩ | omega) (fun c52 => ?_) (fun c52 => by exfalso; omega)
    refine Go_iload (pc' := 127) dX10_waysFrom_125 rfl rfl ?_
    refine Go_ireturn (ty := .int) dX10_waysFrom_127 rfl rfl ?_
    exact hk
  | succ m ih =>
    intro s a hs hps hk
    have tsv := ts s (by omega)
    refine Go_iload (pc' := 51) dX10_waysFrom_49 rfl rfl ?_
    refine Go_iload_n (pc' := 52) dX10_waysFrom_51 rfl rfl rfl ?_
    refine Go_icmp_geY (tgt := 125) (pc' := 55) dX10_waysFrom_52 (by decide) rfl (by first | exact ⟨i_lo _, i_hi _⟩ | omega) (by first | exact ⟨i_lo _, i_hi _⟩ | omega) (fun c52 => by exfalso; omega) (fun c52 => ?_)
    refine Go_iload (pc' := 57) dX10_waysFrom_55 rfl rfl ?_
    refine Go_aload_n (pc' := 58) dX10_waysFrom_57 rfl rfl rfl ?_
    refine Go_alenZ (n := 8) (pc' := 59) dX10_waysFrom_58 rfl (Sh.b 82 rfl rfl) (Sh.k 82 rfl rfl rfl) (Or.inl rfl) ?_
    refine Go_icmp_geY (tgt := 125) (pc' := 62) dX10_waysFrom_59 (by decide) rfl (by first | exact ⟨i_lo _, i_hi _⟩ | omega) (by first | exact ⟨i_lo _, i_hi _⟩ | omega) (fun c59 => by exfalso; omega) (fun c59 => ?_)
    refine Go_iconst (v := iZ 2) (pc' := 63) dX10_waysFrom_62 rfl (by decide) ?_
    refine Go_iload (pc' := 65) dX10_waysFrom_63 rfl rfl ?_
    refine Go_imulZ (pc' := 66) dX10_waysFrom_65 rfl ?_
    refine Go_bipush (v := iZ 8) (pc' := 68) dX10_waysFrom_66 rfl (by decide) ?_
    refine Go_icmp_geY (tgt := 125) (pc' := 71) dX10_waysFrom_68 (by decide) rfl (by first | exact ⟨i_lo _, i_hi _⟩ | omega) (by first | exact ⟨i_lo _, i_hi _⟩ | omega) (fun c68 => by exfalso; omega) (fun c68 => ?_)
    refine Go_iload_n (pc' := 72) dX10_waysFrom_71 rfl rfl rfl ?_
    refine Go_iload (pc' := 74) dX10_waysFrom_72 rfl rfl ?_
    refine Go_ishr (pc' := 75) dX10_waysFrom_74 rfl ?_
    refine Go_iconst (v := iZ 1) (pc' := 76) dX10_waysFrom_75 rfl (by decide) ?_
    refine Go_iand (pc' := 77) dX10_waysFrom_76 rfl ?_
    rw [bitA T hT s (by omega)]
    refine Go_if_neY (tgt := 119) (pc' := 80) dX10_waysFrom_77 (by decide) rfl (by first | exact ⟨i_lo _, i_hi _⟩ | omega) (fun c77 => ?_) (fun c77 => ?_)
    · refine Go_iincZ (pc' := 122) (lv' := [.ref _, .int _, .int _, .int _, .int _, .int _, .int _, .int _]) dX10_waysFrom_119 rfl rfl (Nat.le_of_ble_eq_true rfl) rfl rfl ?_
      refine Go_goto (tgt := 49) dX10_waysFrom_122 (by decide) ?_
      rw [swr_f (fun z => by have z1 := z.1; have z2 : (vi h 82 s).toInt - (vi h 82 p).toInt ≤ w := z.2; omega)] at hk
      exact ih (s + 1) _ (by omega) (by omega) hk
    · refine Go_aload_n (pc' := 81) dX10_waysFrom_80 rfl rfl rfl ?_
      refine Go_iload (pc' := 83) dX10_waysFrom_81 rfl rfl ?_
      refine Go_ialoadZ (n := 8) (k := s) (v := (iZ (vi h 82 s).toInt)) (pc' := 84) dX10_waysFrom_83 rfl (Sh.b 82 rfl rfl) (Sh.k 82 rfl rfl rfl) rfl (by omega) (by decide) (vi_eta _ _ _) ?_
      refine Go_aload_n (pc' := 85) dX10_waysFrom_84 rfl rfl rfl ?_
      refine Go_iload (pc' := 87) dX10_waysFrom_85 rfl rfl ?_
      refine Go_ialoadZ (n := 8) (k := p) (v := (iZ (vi h 82 p).toInt)) (pc' := 88) dX10_waysFrom_87 rfl (Sh.b 82 rfl rfl) (Sh.k 82 rfl rfl rfl) rfl (by omega) (by decide) (vi_eta _ _ _) ?_
      refine Go_isubZ (pc' := 89) dX10_waysFrom_88 rfl ?_
      refine Go_iload_n (pc' := 90) dX10_waysFrom_89 rfl rfl rfl ?_
      refine Go_icmp_gtY (tgt := 119) (pc' := 93) dX10_waysFrom_90 (by decide) rfl (by first | exact ⟨i_lo _, i_hi _⟩ | omega) (by first | exact ⟨i_lo _, i_hi _⟩ | omega) (fun c90 => ?_) (fun c90 => ?_)
      · refine Go_iincZ (pc' := 122) (lv' := [.ref _, .int _, .int _, .int _, .int _, .int _, .int _, .int _]) dX10_waysFrom_119 rfl rfl (Nat.le_of_ble_eq_true rfl) rfl rfl ?_
        refine Go_goto (tgt := 49) dX10_waysFrom_122 (by decide) ?_
        rw [swr_f (fun z => by have z1 := z.1; have z2 : (vi h 82 s).toInt - (vi h 82 p).toInt ≤ w := z.2; omega)] at hk
        exact ih (s + 1) _ (by omega) (by omega) hk
      · refine Go_iload (pc' := 95) dX10_waysFrom_93 rfl rfl ?_
        refine Go_aload_n (pc' := 96) dX10_waysFrom_95 rfl rfl rfl ?_
        refine Go_iload_n (pc' := 97) dX10_waysFrom_96 rfl rfl rfl ?_
        refine Go_iload_n (pc' := 98) dX10_waysFrom_97 rfl rfl rfl ?_
        refine Go_iconst (v := iZ 1) (pc' := 99) dX10_waysFrom_98 rfl (by decide) ?_
        refine Go_iload (pc' := 101) dX10_waysFrom_99 rfl rfl ?_
        refine Go_ishl (pc' := 102) dX10_waysFrom_101 rfl ?_
        refine Go_ior (pc' := 103) dX10_waysFrom_102 rfl ?_
        rw [orA T hT p (by omega)]
        refine Go_iconst (v := iZ 1) (pc' := 104) dX10_waysFrom_103 rfl (by decide) ?_
        refine Go_iload (pc' := 106) dX10_waysFrom_104 rfl rfl ?_
        refine Go_ishl (pc' := 107) dX10_waysFrom_106 rfl ?_
        refine Go_ior (pc' := 108) dX10_waysFrom_107 rfl ?_
        rw [orA (T ||| 2 ^ p) (orB T hT p (by omega)) s (by omega)]
        refine Go_iload_n (pc' := 109) dX10_waysFrom_108 rfl rfl rfl ?_
        refine Go_iload (pc' := 111) dX10_waysFrom_109 rfl rfl ?_
        refine Go_iconst (v := iZ 1) (pc' := 112) dX10_waysFrom_111 rfl (by decide) ?_
        refine Go_iaddZ (pc' := 113) dX10_waysFrom_112 rfl ?_
        refine Go_callS_i (pc' := 116) (As := [.ref _, .int _, .int _, .int _, .int _]) (st := [.int _]) dX10_waysFrom_113 rfl ok_X10_waysFrom km_RX10_24 rfl (Nat.le_of_ble_eq_true rfl) rfl rfl rfl (Nat.le_of_ble_eq_true rfl) (Nat.lt_succ_self _) ?_
        refine IH _ (orB _ (orB T hT p (by omega)) s (by omega)) (by rw [popA _ (orB T hT p (by omega)) s (by omega) (by rw [popB T hT p (by omega) s (by omega) (by omega)]; omega), popA T hT p (by omega) hb]; omega) (k + 1) (by omega) _ ?_
        refine ⟨_, rfl, ?_⟩
        refine Go_iaddZ (pc' := 117) dX10_waysFrom_116 rfl ?_
        refine Go_istore (pc' := 119) (lv' := [.ref _, .int _, .int _, .int _, .int _, .int _, .int _, .int _]) dX10_waysFrom_117 rfl (Nat.le_of_ble_eq_true rfl) rfl rfl ?_
        refine Go_iincZ (pc' := 122) (lv' := [.ref _, .int _, .int _, .int _, .int _, .int _, .int _, .int _]) dX10_waysFrom_119 rfl rfl (Nat.le_of_ble_eq_true rfl) rfl rfl ?_
        refine Go_goto (tgt := 49) dX10_waysFrom_122 (by decide) ?_
        rw [swr_t (⟨by omega, by show (vi h 82 s).toInt - (vi h 82 p).toInt ≤ w; omega⟩)] at hk
        exact ih (s + 1) _ (by omega) (by omega) hk
set_option maxRecDepth 20000 in
set_option maxHeartbeats 1000000 in
theorem s_wfC {G : GC} {d : Nat} {h : HS} {n : Nat} {w : Int} (Sh : Shp h) (hn : n ≤ 8) (ts : ∀ i, i < n → 0 ≤ (vi h 82 i).toInt ∧ (vi h 82 i).toInt ≤ 9999999) (hw : 0 ≤ w ∧ w ≤ 9999) : ∀ (f : Nat), f ≤ 4 → ∀ (T : Nat), T < 256 → 8 ≤ popc T + 2 * f → ∀ (k : Int), k + f = 4 → ∀ (K : Option Value → HS → Prop), K (some (.int (iZ ((ways n (fun i => (vi h 82 i).toInt) w f) T)))) h → Go G (d + f) 0 0 M_X10_waysFrom 0 [.ref 82, .int (iZ (n : Int)), .int (iZ (T : Int)), .int (iZ w), .int (iZ k), un, un, un] [] h K := by
  intro f
  induction f with
  | zero =>
    intro _ T hT hpc k hkf K hk
    refine Go_iconst (v := iZ 0) (pc' := 1) dX10_waysFrom_0 rfl (by decide) ?_
    refine Go_istore (pc' := 3) (lv' := [.ref _, .int _, .int _, .int _, .int _, .int _, un, un]) dX10_waysFrom_1 rfl (Nat.le_of_ble_eq_true rfl) rfl rfl ?_
    have hf := ffr_full hT (by omega) n 0 (by omega)
    rw [Nat.zero_add] at hf
    refine ff_loopC Sh hn hT n 0 (Nat.zero_add n) ?_
    refine Go_iload (pc' := 27) dX10_waysFrom_25 rfl rfl ?_
    refine Go_iload_n (pc' := 28) dX10_waysFrom_27 rfl rfl rfl ?_
    refine Go_icmp_geY (tgt := 38) (pc' := 31) dX10_waysFrom_28 (by decide) rfl (by first | exact ⟨i_lo _, i_hi _⟩ | omega) (by first | exact ⟨i_lo _, i_hi _⟩ | omega) (fun c28 => ?_) (fun c28 => by exfalso; omega)
    refine Go_iconst (v := iZ 1) (pc' := 39) dX10_waysFrom_38 rfl (by decide) ?_
    refine Go_ireturn (ty := .int) dX10_waysFrom_39 rfl rfl ?_
    exact hk
  | succ f ih =>
    intro hf4
    have ih := ih (by omega)
    intro T hT hpc k hkf K hk
    refine Go_iconst (v := iZ 0) (pc' := 1) dX10_waysFrom_0 rfl (by decide) ?_
    refine Go_istore (pc' := 3) (lv' := [.ref _, .int _, .int _, .int _, .int _, .int _, un, un]) dX10_waysFrom_1 rfl (Nat.le_of_ble_eq_true rfl) rfl rfl ?_
    refine ff_loopC Sh hn hT n 0 (Nat.zero_add n) ?_
    obtain ⟨s1, s2, s3⟩ := ffr_sp T n 0
    rw [Nat.zero_add] at s2 s3
    refine Go_iload (pc' := 27) dX10_waysFrom_25 rfl rfl ?_
    refine Go_iload_n (pc' := 28) dX10_waysFrom_27 rfl rfl rfl ?_
    refine Go_icmp_geY (tgt := 38) (pc' := 31) dX10_waysFrom_28 (by decide) rfl (by first | exact ⟨i_lo _, i_hi _⟩ | omega) (by first | exact ⟨i_lo _, i_hi _⟩ | omega) (fun c28 => ?_) (fun c28 => ?_)
    · refine Go_iconst (v := iZ 1) (pc' := 39) dX10_waysFrom_38 rfl (by decide) ?_
      refine Go_ireturn (ty := .int) dX10_waysFrom_39 rfl rfl ?_
      rw [ways_t (by omega)] at hk; exact hk
    · refine Go_iload (pc' := 33) dX10_waysFrom_31 rfl rfl ?_
      refine Go_aload_n (pc' := 34) dX10_waysFrom_33 rfl rfl rfl ?_
      refine Go_alenZ (n := 8) (pc' := 35) dX10_waysFrom_34 rfl (Sh.b 82 rfl rfl) (Sh.k 82 rfl rfl rfl) (Or.inl rfl) ?_
      refine Go_icmp_ltY (tgt := 40) (pc' := 38) dX10_waysFrom_35 (by decide) rfl (by first | exact ⟨i_lo _, i_hi _⟩ | omega) (by first | exact ⟨i_lo _, i_hi _⟩ | omega) (fun c35 => ?_) (fun c35 => by exfalso; omega)
      refine Go_iconst (v := iZ 0) (pc' := 41) dX10_waysFrom_40 rfl (by decide) ?_
      refine Go_istore (pc' := 43) (lv' := [.ref _, .int _, .int _, .int _, .int _, .int _, .int _, un]) dX10_waysFrom_41 rfl (Nat.le_of_ble_eq_true rfl) rfl rfl ?_
      refine Go_iload (pc' := 45) dX10_waysFrom_43 rfl rfl ?_
      refine Go_iconst (v := iZ 1) (pc' := 46) dX10_waysFrom_45 rfl (by decide) ?_
      refine Go_iaddZ (pc' := 47) dX10_waysFrom_46 rfl ?_
      refine Go_istore (pc' := 49) (lv' := [.ref _, .int _, .int _, .int _, .int _, .int _, .int _, .int _]) dX10_waysFrom_47 rfl (Nat.le_of_ble_eq_true rfl) rfl rfl ?_
      rw [ways_f (by omega)] at hk
      exact sw_loopC  Sh hn hT ts hw (by omega) (s3 (by omega)) hf4 hpc hkf (fun T hT hp k hkf => ih T hT hp k hkf) (n - (ffr T n 0 + 1)) (ffr T n 0 + 1) 0 (by omega) (by omega) hk
set_option maxRecDepth 20000 in
set_option maxHeartbeats 1000000 in
theorem ff_loopM {G : GC} {d : Nat} {h : HS} {K : Option Value → HS → Prop} {n T : Nat} {w k : Int} (Sh : Shp h) (hn : n ≤ 8) (hT : T < 256) (en : vi h 99 51 = iZ (n : Int)) : ∀ (m p : Nat), p + m = n → Go G d 0 0 M_X12_couplesOf 25 [.ref 99, .int (iZ (T : Int)), .int (iZ w), .int (iZ ((ffr T m p : Nat) : Int)), un, un] [] h K → Go G d 0 0 M_X12_couplesOf 2 [.ref 99, .int (iZ (T : Int)), .int (iZ w), .int (iZ (p : Int)), un, un] [] h K := by
  intro m
  induction m with
  | zero =>
    intro p hp hx
    refine Go_iload_n (pc' := 3) dX12_couplesOf_2 rfl rfl rfl ?_
    refine Go_aload_n (pc' := 4) dX12_couplesOf_3 rfl rfl rfl ?_
    refine Go_getIv (v := (iZ (n : Int))) (pc' := 7) dX12_couplesOf_4 rfl kf_RX12_382 (by decide) (by decide) rfl (Sh.b 99 rfl rfl) (Sh.o 99 rfl rfl rfl) (en) ?_
    refine Go_icmp_geY (tgt := 25) (pc' := 10) dX12_couplesOf_7 (by decide) rfl (by first | exact ⟨i_lo _, i_hi _⟩ | omega) (by first | exact ⟨i_lo _, i_hi _⟩ | omega) (fun c7 => ?_) (fun c7 => by exfalso; omega)
    exact hx
  | succ m ih =>
    intro p hp hx
    refine Go_iload_n (pc' := 3) dX12_couplesOf_2 rfl rfl rfl ?_
    refine Go_aload_n (pc' := 4) dX12_couplesOf_3 rfl rfl rfl ?_
    refine Go_getIv (v := (iZ (n : Int))) (pc' := 7) dX12_couplesOf_4 rfl kf_RX12_382 (by decide) (by decide) rfl (Sh.b 99 rfl rfl) (Sh.o 99 rfl rfl rfl) (en) ?_
    refine Go_icmp_geY (tgt := 25) (pc' := 10) dX12_couplesOf_7 (by decide) rfl (by first | exact ⟨i_lo _, i_hi _⟩ | omega) (by first | exact ⟨i_lo _, i_hi _⟩ | omega) (fun c7 => by exfalso; omega) (fun c7 => ?_)
    refine Go_iload_n (pc' := 11) dX12_couplesOf_10 rfl rfl rfl ?_
    refine Go_iload_n (pc' := 12) dX12_couplesOf_11 rfl rfl rfl ?_
    refine Go_ishr (pc' := 13) dX12_couplesOf_12 rfl ?_
    refine Go_iconst (v := iZ 1) (pc' := 14) dX12_couplesOf_13 rfl (by decide) ?_
    refine Go_iand (pc' := 15) dX12_couplesOf_14 rfl ?_
    rw [bitA T hT p (by omega)]
    refine Go_iconst (v := iZ 1) (pc' := 16) dX12_couplesOf_15 rfl (by decide) ?_
    refine Go_icmp_neY (tgt := 25) (pc' := 19) dX12_couplesOf_16 (by decide) rfl (by first | exact ⟨i_lo _, i_hi _⟩ | omega) (by first | exact ⟨i_lo _, i_hi _⟩ | omega) (fun c16 => ?_) (fun c16 => ?_)
    · rw [ffr_f (by omega)] at hx; exact hx
    · refine Go_iincZ (pc' := 22) (lv' := [.ref _, .int _, .int _, .int _, un, un]) dX12_couplesOf_19 rfl rfl (Nat.le_of_ble_eq_true rfl) rfl rfl ?_
      refine Go_goto (tgt := 2) dX12_couplesOf_22 (by decide) ?_
      rw [ffr_t (by omega)] at hx
      exact ih (p + 1) (by omega) hx
set_option maxRecDepth 20000 in
set_option maxHeartbeats 1000000 in
theorem sw_loopM {G : GC} {d : Nat} {h : HS} {K : Option Value → HS → Prop} {n T : Nat} {w k : Int} (Sh : Shp h) (hn : n ≤ 8) (hT : T < 256) (en : vi h 99 51 = iZ (n : Int)) (es : ∀ i, i < n → vi h 82 i = vi h 133 i) {f p : Nat} (ts : ∀ i, i < n → 0 ≤ (vi h 82 i).toInt ∧ (vi h 82 i).toInt ≤ 9999999) (hw : 0 ≤ w ∧ w ≤ 9999) (hpn : p < n) (hb : T / 2 ^ p % 2 = 0) (hf3 : f + 1 ≤ 4) (hpc : 8 ≤ popc T + 2 * (f + 1)) (IH : ∀ (T : Nat), T < 256 → 8 ≤ popc T + 2 * f → ∀ (K : Option Value → HS → Prop), K (some (.int (iZ ((ways n (fun i => (vi h 82 i).toInt) w f) T)))) h → Go G (d + f) 0 0 M_X12_couplesOf 0 [.ref 99, .int (iZ (T : Int)), .int (iZ w), un, un, un] [] h K) : ∀ (m s : Nat) (a : Int), s + m = n → p < s → K (some (.int (iZ (swr (ways n (fun i => (vi h 82 i).toInt) w f) (fun i => (vi h 82 i).toInt) w T p m s a)))) h → Go G (d + (f + 1)) 0 0 M_X12_couplesOf 43 [.ref 99, .int (iZ (T : Int)), .int (iZ w), .int (iZ (p : Int)), .int (iZ a), .int (iZ (s : Int))] [] h K := by
  have tp := ts p hpn
  intro m
  induction m with
  | zero =>
    intro s a hs hps hk
    refine Go_iload (pc' := 45) dX12_couplesOf_43 rfl rfl ?_
    refine Go_aload_n (pc' := 46) dX12_couplesOf_45 rfl rfl rfl ?_
    refine Go_getIv (v := (iZ (n : Int))) (pc' := 49) dX12_couplesOf_46 rfl kf_RX12_382 (by decide) (by decide) rfl (Sh.b 99 rfl rfl) (Sh.o 99 rfl rfl rfl) (en) ?_
    refine Go_icmp_geY (tgt := 105) (pc' := 52) dX12_couplesOf_49 (by decide) rfl (by first | exact ⟨i_lo _, i_hi _⟩ | omega) (by first | exact ⟨i_lo _, i_hi _⟩ | omega) (fun c49 => ?_) (fun c49 => by exfalso; omega)
    refine Go_iload (pc' := 107) dX12_couplesOf_105 rfl rfl ?_
    refine Go_ireturn (ty := .int) dX12_couplesOf_107 rfl rfl ?_
    exact hk
  | succ m ih =>
    intro s a hs hps hk
    have tsv := ts s (by omega)
    refine Go_iload (pc' := 45) dX12_couplesOf_43 rfl rfl ?_
    refine Go_aload_n (pc' := 46) dX12_couplesOf_45 rfl rfl rfl ?_
    refine Go_getIv (v := (iZ (n : Int))) (pc' := 49) dX12_couplesOf_46 rfl kf_RX12_382 (by decide) (by decide) rfl (Sh.b 99 rfl rfl) (Sh.o 99 rfl rfl rfl) (en) ?_
    refine Go_icmp_geY (tgt := 105) (pc' := 52) dX12_couplesOf_49 (by decide) rfl (by first | exact ⟨i_lo _, i_hi _⟩ | omega) (by first | exact ⟨i_lo _, i_hi _⟩ | omega) (fun c49 => by exfalso; omega) (fun c49 => ?_)
    refine Go_iload_n (pc' := 53) dX12_couplesOf_52 rfl rfl rfl ?_
    refine Go_iload (pc' := 55) dX12_couplesOf_53 rfl rfl ?_
    refine Go_ishr (pc' := 56) dX12_couplesOf_55 rfl ?_
    refine Go_iconst (v := iZ 1) (pc' := 57) dX12_couplesOf_56 rfl (by decide) ?_
    refine Go_iand (pc' := 58) dX12_couplesOf_57 rfl ?_
    rw [bitA T hT s (by omega)]
    refine Go_if_neY (tgt := 99) (pc' := 61) dX12_couplesOf_58 (by decide) rfl (by first | exact ⟨i_lo _, i_hi _⟩ | omega) (fun c58 => ?_) (fun c58 => ?_)
    · refine Go_iincZ (pc' := 102) (lv' := [.ref _, .int _, .int _, .int _, .int _, .int _]) dX12_couplesOf_99 rfl rfl (Nat.le_of_ble_eq_true rfl) rfl rfl ?_
      refine Go_goto (tgt := 43) dX12_couplesOf_102 (by decide) ?_
      rw [swr_f (fun z => by have z1 := z.1; have z2 : (vi h 82 s).toInt - (vi h 82 p).toInt ≤ w := z.2; omega)] at hk
      exact ih (s + 1) _ (by omega) (by omega) hk
    · refine Go_aload_n (pc' := 62) dX12_couplesOf_61 rfl rfl rfl ?_
      refine Go_getRs (pc' := 65) dX12_couplesOf_62 rfl kf_RX12_120 (by decide) (by decide) rfl (Sh.b 99 rfl rfl) (Sh.o 99 rfl rfl rfl) (Sh.r 99 50 rfl rfl rfl) ?_
      refine Go_iload (pc' := 67) dX12_couplesOf_65 rfl rfl ?_
      refine Go_ialoadZ (n := 8) (k := s) (v := (iZ (vi h 82 s).toInt)) (pc' := 68) dX12_couplesOf_67 rfl (Sh.b 133 rfl rfl) (Sh.k 133 rfl rfl rfl) rfl (by omega) (by decide) ((es s (by omega)).symm.trans (vi_eta _ _ _)) ?_
      refine Go_aload_n (pc' := 69) dX12_couplesOf_68 rfl rfl rfl ?_
      refine Go_getRs (pc' := 72) dX12_couplesOf_69 rfl kf_RX12_120 (by decide) (by decide) rfl (Sh.b 99 rfl rfl) (Sh.o 99 rfl rfl rfl) (Sh.r 99 50 rfl rfl rfl) ?_
      refine Go_iload_n (pc' := 73) dX12_couplesOf_72 rfl rfl rfl ?_
      refine Go_ialoadZ (n := 8) (k := p) (v := (iZ (vi h 82 p).toInt)) (pc' := 74) dX12_couplesOf_73 rfl (Sh.b 133 rfl rfl) (Sh.k 133 rfl rfl rfl) rfl (by omega) (by decide) ((es p (by omega)).symm.trans (vi_eta _ _ _)) ?_
      refine Go_isubZ (pc' := 75) dX12_couplesOf_74 rfl ?_
      refine Go_iload_n (pc' := 76) dX12_couplesOf_75 rfl rfl rfl ?_
      refine Go_icmp_gtY (tgt := 99) (pc' := 79) dX12_couplesOf_76 (by decide) rfl (by first | exact ⟨i_lo _, i_hi _⟩ | omega) (by first | exact ⟨i_lo _, i_hi _⟩ | omega) (fun c76 => ?_) (fun c76 => ?_)
      · refine Go_iincZ (pc' := 102) (lv' := [.ref _, .int _, .int _, .int _, .int _, .int _]) dX12_couplesOf_99 rfl rfl (Nat.le_of_ble_eq_true rfl) rfl rfl ?_
        refine Go_goto (tgt := 43) dX12_couplesOf_102 (by decide) ?_
        rw [swr_f (fun z => by have z1 := z.1; have z2 : (vi h 82 s).toInt - (vi h 82 p).toInt ≤ w := z.2; omega)] at hk
        exact ih (s + 1) _ (by omega) (by omega) hk
      · refine Go_iload (pc' := 81) dX12_couplesOf_79 rfl rfl ?_
        refine Go_aload_n (pc' := 82) dX12_couplesOf_81 rfl rfl rfl ?_
        refine Go_iload_n (pc' := 83) dX12_couplesOf_82 rfl rfl rfl ?_
        refine Go_iconst (v := iZ 1) (pc' := 84) dX12_couplesOf_83 rfl (by decide) ?_
        refine Go_iload_n (pc' := 85) dX12_couplesOf_84 rfl rfl rfl ?_
        refine Go_ishl (pc' := 86) dX12_couplesOf_85 rfl ?_
        refine Go_ior (pc' := 87) dX12_couplesOf_86 rfl ?_
        rw [orA T hT p (by omega)]
        refine Go_iconst (v := iZ 1) (pc' := 88) dX12_couplesOf_87 rfl (by decide) ?_
        refine Go_iload (pc' := 90) dX12_couplesOf_88 rfl rfl ?_
        refine Go_ishl (pc' := 91) dX12_couplesOf_90 rfl ?_
        refine Go_ior (pc' := 92) dX12_couplesOf_91 rfl ?_
        rw [orA (T ||| 2 ^ p) (orB T hT p (by omega)) s (by omega)]
        refine Go_iload_n (pc' := 93) dX12_couplesOf_92 rfl rfl rfl ?_
        refine Go_callV_i (pc' := 96) (As := [.int _, .int _]) (st := [.int _]) dX12_couplesOf_93 rfl ok_X12_couplesOf km_RX12_385 (Sh.o 99 rfl rfl rfl) (Sh.b 99 rfl rfl) ⟨_, _, rfl⟩ rfl (Nat.le_of_ble_eq_true rfl) rfl rfl rfl (Nat.le_of_ble_eq_true rfl) (Nat.lt_succ_self _) ?_
        refine IH _ (orB _ (orB T hT p (by omega)) s (by omega)) (by rw [popA _ (orB T hT p (by omega)) s (by omega) (by rw [popB T hT p (by omega) s (by omega) (by omega)]; omega), popA T hT p (by omega) hb]; omega) _ ?_
        refine ⟨_, rfl, ?_⟩
        refine Go_iaddZ (pc' := 97) dX12_couplesOf_96 rfl ?_
        refine Go_istore (pc' := 99) (lv' := [.ref _, .int _, .int _, .int _, .int _, .int _]) dX12_couplesOf_97 rfl (Nat.le_of_ble_eq_true rfl) rfl rfl ?_
        refine Go_iincZ (pc' := 102) (lv' := [.ref _, .int _, .int _, .int _, .int _, .int _]) dX12_couplesOf_99 rfl rfl (Nat.le_of_ble_eq_true rfl) rfl rfl ?_
        refine Go_goto (tgt := 43) dX12_couplesOf_102 (by decide) ?_
        rw [swr_t (⟨by omega, by show (vi h 82 s).toInt - (vi h 82 p).toInt ≤ w; omega⟩)] at hk
        exact ih (s + 1) _ (by omega) (by omega) hk
set_option maxRecDepth 20000 in
set_option maxHeartbeats 1000000 in
theorem s_wfM {G : GC} {d : Nat} {h : HS} {n : Nat} {w : Int} (Sh : Shp h) (hn : n ≤ 8) (en : vi h 99 51 = iZ (n : Int)) (es : ∀ i, i < n → vi h 82 i = vi h 133 i) (ts : ∀ i, i < n → 0 ≤ (vi h 82 i).toInt ∧ (vi h 82 i).toInt ≤ 9999999) (hw : 0 ≤ w ∧ w ≤ 9999) : ∀ (f : Nat), f ≤ 4 → ∀ (T : Nat), T < 256 → 8 ≤ popc T + 2 * f → ∀ (K : Option Value → HS → Prop), K (some (.int (iZ ((ways n (fun i => (vi h 82 i).toInt) w f) T)))) h → Go G (d + f) 0 0 M_X12_couplesOf 0 [.ref 99, .int (iZ (T : Int)), .int (iZ w), un, un, un] [] h K := by
  intro f
  induction f with
  | zero =>
    intro _ T hT hpc K hk
    refine Go_iconst (v := iZ 0) (pc' := 1) dX12_couplesOf_0 rfl (by decide) ?_
    refine Go_istore_n (pc' := 2) (lv' := [.ref _, .int _, .int _, .int _, un, un]) dX12_couplesOf_1 rfl rfl (Nat.le_of_ble_eq_true rfl) rfl rfl ?_
    have hf := ffr_full hT (by omega) n 0 (by omega)
    rw [Nat.zero_add] at hf
    refine ff_loopM (k := 0) Sh hn hT en n 0 (Nat.zero_add n) ?_
    refine Go_iload_n (pc' := 26) dX12_couplesOf_25 rfl rfl rfl ?_
    refine Go_aload_n (pc' := 27) dX12_couplesOf_26 rfl rfl rfl ?_
    refine Go_getIv (v := (iZ (n : Int))) (pc' := 30) dX12_couplesOf_27 rfl kf_RX12_382 (by decide) (by decide) rfl (Sh.b 99 rfl rfl) (Sh.o 99 rfl rfl rfl) (en) ?_
    refine Go_icmp_neY (tgt := 35) (pc' := 33) dX12_couplesOf_30 (by decide) rfl (by first | exact ⟨i_lo _, i_hi _⟩ | omega) (by first | exact ⟨i_lo _, i_hi _⟩ | omega) (fun c30 => by exfalso; omega) (fun c30 => ?_)
    refine Go_iconst (v := iZ 1) (pc' := 34) dX12_couplesOf_33 rfl (by decide) ?_
    refine Go_ireturn (ty := .int) dX12_couplesOf_34 rfl rfl ?_
    exact hk
  | succ f ih =>
    intro hf4
    have ih := ih (by omega)
    intro T hT hpc K hk
    refine Go_iconst (v := iZ 0) (pc' := 1) dX12_couplesOf_0 rfl (by decide) ?_
    refine Go_istore_n (pc' := 2) (lv' := [.ref _, .int _, .int _, .int _, un, un]) dX12_couplesOf_1 rfl rfl (Nat.le_of_ble_eq_true rfl) rfl rfl ?_
    refine ff_loopM (k := 0) Sh hn hT en n 0 (Nat.zero_add n) ?_
    obtain ⟨s1, s2, s3⟩ := ffr_sp T n 0
    rw [Nat.zero_add] at s2 s3
    refine Go_iload_n (pc' := 26) dX12_couplesOf_25 rfl rfl rfl ?_
    refine Go_aload_n (pc' := 27) dX12_couplesOf_26 rfl rfl rfl ?_
    refine Go_getIv (v := (iZ (n : Int))) (pc' := 30) dX12_couplesOf_27 rfl kf_RX12_382 (by decide) (by decide) rfl (Sh.b 99 rfl rfl) (Sh.o 99 rfl rfl rfl) (en) ?_
    refine Go_icmp_neY (tgt := 35) (pc' := 33) dX12_couplesOf_30 (by decide) rfl (by first | exact ⟨i_lo _, i_hi _⟩ | omega) (by first | exact ⟨i_lo _, i_hi _⟩ | omega) (fun c30 => ?_) (fun c30 => ?_)
    · refine Go_iconst (v := iZ 0) (pc' := 36) dX12_couplesOf_35 rfl (by decide) ?_
      refine Go_istore (pc' := 38) (lv' := [.ref _, .int _, .int _, .int _, .int _, un]) dX12_couplesOf_36 rfl (Nat.le_of_ble_eq_true rfl) rfl rfl ?_
      refine Go_iload_n (pc' := 39) dX12_couplesOf_38 rfl rfl rfl ?_
      refine Go_iconst (v := iZ 1) (pc' := 40) dX12_couplesOf_39 rfl (by decide) ?_
      refine Go_iaddZ (pc' := 41) dX12_couplesOf_40 rfl ?_
      refine Go_istore (pc' := 43) (lv' := [.ref _, .int _, .int _, .int _, .int _, .int _]) dX12_couplesOf_41 rfl (Nat.le_of_ble_eq_true rfl) rfl rfl ?_
      rw [ways_f (by omega)] at hk
      exact sw_loopM (k := 0) Sh hn hT en es ts hw (by omega) (s3 (by omega)) hf4 hpc (fun T hT hp => ih T hT hp ) (n - (ffr T n 0 + 1)) (ffr T n 0 + 1) 0 (by omega) (by omega) hk
    · refine Go_iconst (v := iZ 1) (pc' := 34) dX12_couplesOf_33 rfl (by decide) ?_
      refine Go_ireturn (ty := .int) dX12_couplesOf_34 rfl rfl ?_
      rw [ways_t (by omega)] at hk; exact hk
theorem pop0 : 8 ≤ popc 0 + 2 * 4 := by decide
set_option maxRecDepth 20000 in
set_option maxHeartbeats 1000000 in
theorem pair33 {G : GC} (a : Int32) : PairI G M_X11_parted M_X12_parted [.int a] := by
  intro h I
  obtain ⟨Az, hva, rfl⟩ := i_eta a
  obtain ⟨n, hn, en⟩ := of_rgZ (b := 8) I.P.2.1
  have en2 : vi h 99 51 = iZ (n : Int) := I.P.1.symm.trans en
  have en3 : (vi h 81 1).toInt = (n : Int) := by rw [en, iZ_t (by omega)]
  have ts : ∀ i, i < n → 0 ≤ (vi h 82 i).toInt ∧ (vi h 82 i).toInt ≤ 9999999 := fun i hi => (I.P.2.2.1 i (by omega)).2
  have es : ∀ i, i < n → vi h 82 i = vi h 133 i := fun i hi => (I.P.2.2.1 i (by omega)).1
  refine PairI.ro' (fun _ => iZ (if 0 ≤ Az ∧ Az ≤ 9999 then (if (n : Int) % 2 = 0 then ways n (fun i => (vi h 82 i).toInt) Az 4 0 else 0) else (-1))) h I (fun K k => ?_) (fun K k => ?_)
  · show Go G 60 0 0 M_X11_parted 0 [.ref 64, .int (iZ Az)] [] h K
    refine Go_iload_n (pc' := 1) dX11_parted_0 rfl rfl rfl ?_
    refine Go_iconst (v := iZ 0) (pc' := 2) dX11_parted_1 rfl (by decide) ?_
    refine Go_sipush (v := iZ 9999) (pc' := 5) dX11_parted_2 rfl (by decide) ?_
    refine Go_callS_i (pc' := 8) (As := [.int _, .int _, .int _]) (st := []) dX11_parted_5 rfl ok_X11_within km_RX11_94 rfl (Nat.le_of_ble_eq_true rfl) rfl rfl rfl (Nat.le_of_ble_eq_true rfl) (Nat.lt_succ_self _) ?_
    refine s_withinY (by first | exact ⟨i_lo _, i_hi _⟩ | omega) (by first | exact ⟨i_lo _, i_hi _⟩ | omega) (by first | exact ⟨i_lo _, i_hi _⟩ | omega) ?_
    refine ⟨_, rfl, ?_⟩
    refine Go_if_eqb (tgt := 22) (pc' := 11) dX11_parted_8 (by decide) rfl (fun c8 => ?_) (fun c8 => ?_)
    · refine Go_iconst (v := iZ (-1)) (pc' := 23) dX11_parted_22 rfl (by decide) ?_
      refine Go_ireturn (ty := .int) dX11_parted_23 rfl rfl ?_
      rw [if_neg (by omega)] at k; exact k
    · refine Go_aload_n (pc' := 12) dX11_parted_11 rfl rfl rfl ?_
      refine Go_getRs (pc' := 15) dX11_parted_12 rfl kf_RX11_59 (by decide) (by decide) rfl (I.S.b 64 rfl rfl) (I.S.o 64 rfl rfl rfl) (I.S.r 64 10 rfl rfl rfl) ?_
      refine Go_iload_n (pc' := 16) dX11_parted_15 rfl rfl rfl ?_
      refine Go_callV_i (pc' := 19) (As := [.int _]) (st := []) dX11_parted_16 rfl ok_X10_waysToPart km_RX11_318 (I.S.o 81 rfl rfl rfl) (I.S.b 81 rfl rfl) ⟨_, _, rfl⟩ rfl (Nat.le_of_ble_eq_true rfl) rfl rfl rfl (Nat.le_of_ble_eq_true rfl) (Nat.lt_succ_self _) ?_
      refine Go_aload_n (pc' := 1) dX10_waysToPart_0 rfl rfl rfl ?_
      refine Go_getIv (v := (iZ (n : Int))) (pc' := 4) dX10_waysToPart_1 rfl kf_RX10_20 (by decide) (by decide) rfl (I.S.b 81 rfl rfl) (I.S.o 81 rfl rfl rfl) (en) ?_
      refine Go_iconst (v := iZ 2) (pc' := 5) dX10_waysToPart_4 rfl (by decide) ?_
      refine Go_iremP (pc' := 6) dX10_waysToPart_5 rfl (by omega) (by omega) ?_
      refine Go_if_neY (tgt := 26) (pc' := 9) dX10_waysToPart_6 (by decide) rfl (by first | exact ⟨i_lo _, i_hi _⟩ | omega) (fun d6 => ?_) (fun d6 => ?_)
      · refine Go_iconst (v := iZ 0) (pc' := 27) dX10_waysToPart_26 rfl (by decide) ?_
        refine Go_ireturn (ty := .int) dX10_waysToPart_27 rfl rfl ?_
        refine ⟨_, rfl, ?_⟩
        refine Go_goto (tgt := 23) dX11_parted_19 (by decide) ?_
        refine Go_ireturn (ty := .int) dX11_parted_23 rfl rfl ?_
        rw [if_pos (by omega), if_neg (by omega)] at k; exact k
      · refine Go_aload_n (pc' := 10) dX10_waysToPart_9 rfl rfl rfl ?_
        refine Go_getRs (pc' := 13) dX10_waysToPart_10 rfl kf_RX10_9 (by decide) (by decide) rfl (I.S.b 81 rfl rfl) (I.S.o 81 rfl rfl rfl) (I.S.r 81 0 rfl rfl rfl) ?_
        refine Go_aload_n (pc' := 14) dX10_waysToPart_13 rfl rfl rfl ?_
        refine Go_getIv (v := (iZ (n : Int))) (pc' := 17) dX10_waysToPart_14 rfl kf_RX10_20 (by decide) (by decide) rfl (I.S.b 81 rfl rfl) (I.S.o 81 rfl rfl rfl) (en) ?_
        refine Go_iconst (v := iZ 0) (pc' := 18) dX10_waysToPart_17 rfl (by decide) ?_
        refine Go_iload_n (pc' := 19) dX10_waysToPart_18 rfl rfl rfl ?_
        refine Go_iconst (v := iZ 0) (pc' := 20) dX10_waysToPart_19 rfl (by decide) ?_
        refine Go_callS_i (pc' := 23) (As := [.ref _, .int _, .int _, .int _, .int _]) (st := []) dX10_waysToPart_20 rfl ok_X10_waysFrom km_RX10_24 rfl (Nat.le_of_ble_eq_true rfl) rfl rfl rfl (Nat.le_of_ble_eq_true rfl) (Nat.lt_succ_self _) ?_
        refine s_wfC I.S hn ts (by omega) 4 (by omega) 0 (by omega) pop0 0 rfl _ ?_
        refine ⟨_, rfl, ?_⟩
        refine Go_goto (tgt := 27) dX10_waysToPart_23 (by decide) ?_
        refine Go_ireturn (ty := .int) dX10_waysToPart_27 rfl rfl ?_
        refine ⟨_, rfl, ?_⟩
        refine Go_goto (tgt := 23) dX11_parted_19 (by decide) ?_
        refine Go_ireturn (ty := .int) dX11_parted_23 rfl rfl ?_
        rw [if_pos (by omega), if_pos (by omega)] at k; exact k
  · show Go G 60 0 0 M_X12_parted 0 [.ref 99, .int (iZ Az)] [] h K
    refine Go_iload_n (pc' := 1) dX12_parted_0 rfl rfl rfl ?_
    refine Go_iconst (v := iZ 0) (pc' := 2) dX12_parted_1 rfl (by decide) ?_
    refine Go_sipush (v := iZ 9999) (pc' := 5) dX12_parted_2 rfl (by decide) ?_
    refine Go_callS_i (pc' := 8) (As := [.int _, .int _, .int _]) (st := []) dX12_parted_5 rfl ok_X12_isIn km_RX12_147 rfl (Nat.le_of_ble_eq_true rfl) rfl rfl rfl (Nat.le_of_ble_eq_true rfl) (Nat.lt_succ_self _) ?_
    refine s_isInY (by first | exact ⟨i_lo _, i_hi _⟩ | omega) (by first | exact ⟨i_lo _, i_hi _⟩ | omega) (by first | exact ⟨i_lo _, i_hi _⟩ | omega) ?_
    refine ⟨_, rfl, ?_⟩
    refine Go_if_eqb (tgt := 34) (pc' := 11) dX12_parted_8 (by decide) rfl (fun c8 => ?_) (fun c8 => ?_)
    · refine Go_iconst (v := iZ (-1)) (pc' := 35) dX12_parted_34 rfl (by decide) ?_
      refine Go_ireturn (ty := .int) dX12_parted_35 rfl rfl ?_
      rw [if_neg (by omega)] at k; exact k
    · refine Go_aload_n (pc' := 12) dX12_parted_11 rfl rfl rfl ?_
      refine Go_getIv (v := (iZ (n : Int))) (pc' := 15) dX12_parted_12 rfl kf_RX12_382 (by decide) (by decide) rfl (I.S.b 99 rfl rfl) (I.S.o 99 rfl rfl rfl) (en2) ?_
      refine Go_iconst (v := iZ 2) (pc' := 16) dX12_parted_15 rfl (by decide) ?_
      refine Go_iremP (pc' := 17) dX12_parted_16 rfl (by omega) (by omega) ?_
      refine Go_iconst (v := iZ 1) (pc' := 18) dX12_parted_17 rfl (by decide) ?_
      refine Go_icmp_neY (tgt := 25) (pc' := 21) dX12_parted_18 (by decide) rfl (by first | exact ⟨i_lo _, i_hi _⟩ | omega) (by first | exact ⟨i_lo _, i_hi _⟩ | omega) (fun c18 => ?_) (fun c18 => ?_)
      · refine Go_aload_n (pc' := 26) dX12_parted_25 rfl rfl rfl ?_
        refine Go_iconst (v := iZ 0) (pc' := 27) dX12_parted_26 rfl (by decide) ?_
        refine Go_iload_n (pc' := 28) dX12_parted_27 rfl rfl rfl ?_
        refine Go_callV_i (pc' := 31) (As := [.int _, .int _]) (st := []) dX12_parted_28 rfl ok_X12_couplesOf km_RX12_385 (I.S.o 99 rfl rfl rfl) (I.S.b 99 rfl rfl) ⟨_, _, rfl⟩ rfl (Nat.le_of_ble_eq_true rfl) rfl rfl rfl (Nat.le_of_ble_eq_true rfl) (Nat.lt_succ_self _) ?_
        refine s_wfM I.S hn en2 es ts (by omega) 4 (by omega) 0 (by omega) pop0 _ ?_
        refine ⟨_, rfl, ?_⟩
        refine Go_goto (tgt := 35) dX12_parted_31 (by decide) ?_
        refine Go_ireturn (ty := .int) dX12_parted_35 rfl rfl ?_
        rw [if_pos (by omega), if_pos (by omega)] at k; exact k
      · refine Go_iconst (v := iZ 0) (pc' := 22) dX12_parted_21 rfl (by decide) ?_
        refine Go_goto (tgt := 35) dX12_parted_22 (by decide) ?_
        refine Go_ireturn (ty := .int) dX12_parted_35 rfl rfl ?_
        rw [if_pos (by omega), if_neg (by omega)] at k; exact k
