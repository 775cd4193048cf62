/-! rows over whole numbers: an int is told as iZ X -/
abbrev iZ (X : Int) : Int32 := Int32.ofInt X
theorem iZ_t {X : Int} (h : -2147483648 ≤ X ∧ X < 2147483648) : (iZ X).toInt = X := by
  rw [Int32.toInt_ofInt]; exact i_bmod h.1 h.2
theorem iZ_self (x : Int32) : iZ x.toInt = x := Int32.ofInt_toInt x
theorem iZ_add (X Y : Int) : iZ X + iZ Y = iZ (X + Y) := (Int32.ofInt_add _ _).symm
theorem iZ_sub (X Y : Int) : iZ X - iZ Y = iZ (X - Y) := (Int32.ofInt_sub _ _).symm
theorem iZ_mul (X Y : Int) : iZ X * iZ Y = iZ (X * Y) := (Int32.ofInt_mul _ _).symm
theorem iZ_neg (X : Int) : -iZ X = iZ (-X) := (Int32.ofInt_neg _).symm
theorem iZ_nat (n : Nat) : iZ (n : Int) = nI n := by
  show Int32.ofInt _ = Int32.ofNat n
  exact Int32.ofInt_eq_ofNat
theorem iZ_inj {X Y : Int} (hX : -2147483648 ≤ X ∧ X < 2147483648) (hY : -2147483648 ≤ Y ∧ Y < 2147483648) (h : iZ X = iZ Y) : X = Y := by
  have := congrArg Int32.toInt h
  rwa [iZ_t hX, iZ_t hY] at this
theorem iZ_of {x : Int32} {X : Int} (h : x.toInt = X) : x = iZ X := by rw [← h, iZ_self]
theorem iZ_tdiv {X Y : Int} (hX : -2147483648 < X ∧ X < 2147483648) (hY : -2147483648 ≤ Y ∧ Y < 2147483648) : iZ X / iZ Y = iZ (X.tdiv Y) := by
  apply iZ_of
  rw [i_div (by rw [iZ_t (by omega)]; omega), iZ_t (by omega), iZ_t (by omega)]
theorem iZ_div {X Y : Int} (hX : 0 ≤ X ∧ X < 2147483648) (hY : 0 < Y ∧ Y < 2147483648) : iZ X / iZ Y = iZ (X / Y) := by
  rw [iZ_tdiv (by omega) (by omega), Int.tdiv_eq_ediv_of_nonneg hX.1]
theorem iZ_ne0 {Y : Int} (h : Y ≠ 0) (hY : -2147483648 ≤ Y ∧ Y < 2147483648) : ¬ iZ Y = 0 := by
  intro e
  exact h (iZ_inj hY (by omega) (e.trans rfl))
section
variable {G : GC} {d mc ms : Nat} {M : MI} {pc pc' tgt : Nat} {lv lv' st : List Value} {h : HS} {K : Option Value → HS → Prop} {X Y : Int}
theorem Go_iaddZ (hd : decode M.2.2.1 pc = .ok (.iadd, 1)) (hp : pc + 1 = pc') (k : Go G d mc ms M pc' lv (.int (iZ (X + Y)) :: st) h K) : Go G d mc ms M pc lv (.int (iZ Y) :: .int (iZ X) :: st) h K := Go_iadd hd hp (by rw [iZ_add]; exact k)
theorem Go_isubZ (hd : decode M.2.2.1 pc = .ok (.isub, 1)) (hp : pc + 1 = pc') (k : Go G d mc ms M pc' lv (.int (iZ (X - Y)) :: st) h K) : Go G d mc ms M pc lv (.int (iZ Y) :: .int (iZ X) :: st) h K := Go_isub hd hp (by rw [iZ_sub]; exact k)
theorem Go_imulZ (hd : decode M.2.2.1 pc = .ok (.imul, 1)) (hp : pc + 1 = pc') (k : Go G d mc ms M pc' lv (.int (iZ (X * Y)) :: st) h K) : Go G d mc ms M pc lv (.int (iZ Y) :: .int (iZ X) :: st) h K := Go_imul hd hp (by rw [iZ_mul]; exact k)
theorem Go_inegZ (hd : decode M.2.2.1 pc = .ok (.ineg, 1)) (hp : pc + 1 = pc') (k : Go G d mc ms M pc' lv (.int (iZ (-X)) :: st) h K) : Go G d mc ms M pc lv (.int (iZ X) :: st) h K := Go_ineg hd hp (by rw [iZ_neg]; exact k)
theorem Go_idivP (hd : decode M.2.2.1 pc = .ok (.idiv, 1)) (hp : pc + 1 = pc') (hX : 0 ≤ X ∧ X < 2147483648) (hY : 0 < Y ∧ Y < 2147483648) (k : Go G d mc ms M pc' lv (.int (iZ (X / Y)) :: st) h K) : Go G d mc ms M pc lv (.int (iZ Y) :: .int (iZ X) :: st) h K := Go_idiv hd hp (iZ_ne0 (by omega) (by omega)) (by rw [iZ_div hX hY]; exact k)
theorem Go_idivT (hd : decode M.2.2.1 pc = .ok (.idiv, 1)) (hp : pc + 1 = pc') (hX : -2147483648 < X ∧ X < 2147483648) (hY : 0 < Y ∧ Y < 2147483648) (k : Go G d mc ms M pc' lv (.int (iZ (X.tdiv Y)) :: st) h K) : Go G d mc ms M pc lv (.int (iZ Y) :: .int (iZ X) :: st) h K := Go_idiv hd hp (iZ_ne0 (by omega) (by omega)) (by rw [iZ_tdiv hX (by omega)]; exact k)
theorem Go_iremP (hd : decode M.2.2.1 pc = .ok (.irem, 1)) (hp : pc + 1 = pc') (hX : 0 ≤ X ∧ X < 2147483648) (hY : 0 < Y ∧ Y < 2147483648) (k : Go G d mc ms M pc' lv (.int (iZ (X % Y)) :: st) h K) : Go G d mc ms M pc lv (.int (iZ Y) :: .int (iZ X) :: st) h K := by
  refine Go_irem hd hp (iZ_ne0 (by omega) (by omega)) ?_
  rw [iZ_div hX hY, iZ_mul, iZ_sub, Int.mul_comm, ← Int.emod_def]; exact k
theorem Go_iremT (hd : decode M.2.2.1 pc = .ok (.irem, 1)) (hp : pc + 1 = pc') (hX : -2147483648 < X ∧ X < 2147483648) (hY : 0 < Y ∧ Y < 2147483648) (k : Go G d mc ms M pc' lv (.int (iZ (X.tmod Y)) :: st) h K) : Go G d mc ms M pc lv (.int (iZ Y) :: .int (iZ X) :: st) h K := by
  refine Go_irem hd hp (iZ_ne0 (by omega) (by omega)) ?_
  rw [iZ_tdiv hX (by omega), iZ_mul, iZ_sub, Int.mul_comm, ← Int.tmod_def]; exact k
theorem Go_ldcZ {i : Nat} {v : Int32} (hd : decode M.2.2.1 pc = .ok (.ldc i, 2)) (hp : pc + 2 = pc') (hw : Cond.constant M.1 i v ∈ Tg) (hv : v = iZ X) (k : Go G d mc ms M pc' lv (.int (iZ X) :: st) h K) : Go G d mc ms M pc lv st h K := Go_ldc hd hp hw (by rw [hv]; exact k)
theorem Go_ldcwZ {i : Nat} {v : Int32} (hd : decode M.2.2.1 pc = .ok (.ldc_w i, 3)) (hp : pc + 3 = pc') (hw : Cond.constant M.1 i v ∈ Tg) (hv : v = iZ X) (k : Go G d mc ms M pc' lv (.int (iZ X) :: st) h K) : Go G d mc ms M pc lv st h K := Go_ldcw hd hp hw (by rw [hv]; exact k)
theorem Go_if_eqY {off : Int} (hd : decode M.2.2.1 pc = .ok (.ifCond .eq off, 3)) (ht : (pc : Int) + off = (tgt : Int)) (hp : pc + 3 = pc') (hX : -2147483648 ≤ X ∧ X < 2147483648) (kt : X = 0 → Go G d mc ms M tgt lv st h K) (kf : ¬ X = 0 → Go G d mc ms M pc' lv st h K) : Go G d mc ms M pc lv (.int (iZ X) :: st) h K := Go_if_eqZ hd ht hp (iZ_t hX) kt kf
theorem Go_icmp_eqY {off : Int} (hd : decode M.2.2.1 pc = .ok (.if_icmp .eq off, 3)) (ht : (pc : Int) + off = (tgt : Int)) (hp : pc + 3 = pc') (hX : -2147483648 ≤ X ∧ X < 2147483648) (hY : -2147483648 ≤ Y ∧ Y < 2147483648) (kt : X = Y → Go G d mc ms M tgt lv st h K) (kf : ¬ X = Y → Go G d mc ms M pc' lv st h K) : Go G d mc ms M pc lv (.int (iZ Y) :: .int (iZ X) :: st) h K := Go_icmp_eqZ hd ht hp (iZ_t hX) (iZ_t hY) kt kf
theorem Go_if_neY {off : Int} (hd : decode M.2.2.1 pc = .ok (.ifCond .ne off, 3)) (ht : (pc : Int) + off = (tgt : Int)) (hp : pc + 3 = pc') (hX : -2147483648 ≤ X ∧ X < 2147483648) (kt : ¬ X = 0 → Go G d mc ms M tgt lv st h K) (kf : X = 0 → Go G d mc ms M pc' lv st h K) : Go G d mc ms M pc lv (.int (iZ X) :: st) h K := Go_if_neZ hd ht hp (iZ_t hX) kt kf
theorem Go_icmp_neY {off : Int} (hd : decode M.2.2.1 pc = .ok (.if_icmp .ne off, 3)) (ht : (pc : Int) + off = (tgt : Int)) (hp : pc + 3 = pc') (hX : -2147483648 ≤ X ∧ X < 2147483648) (hY : -2147483648 ≤ Y ∧ Y < 2147483648) (kt : ¬ X = Y → Go G d mc ms M tgt lv st h K) (kf : X = Y → Go G d mc ms M pc' lv st h K) : Go G d mc ms M pc lv (.int (iZ Y) :: .int (iZ X) :: st) h K := Go_icmp_neZ hd ht hp (iZ_t hX) (iZ_t hY) kt kf
theorem Go_if_ltY {off : Int} (hd : decode M.2.2.1 pc = .ok (.ifCond .lt off, 3)) (ht : (pc : Int) + off = (tgt : Int)) (hp : pc + 3 = pc') (hX : -2147483648 ≤ X ∧ X < 2147483648) (kt : X < 0 → Go G d mc ms M tgt lv st h K) (kf : ¬ X < 0 → Go G d mc ms M pc' lv st h K) : Go G d mc ms M pc lv (.int (iZ X) :: st) h K := Go_if_ltZ hd ht hp (iZ_t hX) kt kf
theorem Go_icmp_ltY {off : Int} (hd : decode M.2.2.1 pc = .ok (.if_icmp .lt off, 3)) (ht : (pc : Int) + off = (tgt : Int)) (hp : pc + 3 = pc') (hX : -2147483648 ≤ X ∧ X < 2147483648) (hY : -2147483648 ≤ Y ∧ Y < 2147483648) (kt : X < Y → Go G d mc ms M tgt lv st h K) (kf : ¬ X < Y → Go G d mc ms M pc' lv st h K) : Go G d mc ms M pc lv (.int (iZ Y) :: .int (iZ X) :: st) h K := Go_icmp_ltZ hd ht hp (iZ_t hX) (iZ_t hY) kt kf
theorem Go_if_geY {off : Int} (hd : decode M.2.2.1 pc = .ok (.ifCond .ge off, 3)) (ht : (pc : Int) + off = (tgt : Int)) (hp : pc + 3 = pc') (hX : -2147483648 ≤ X ∧ X < 2147483648) (kt : 0 ≤ X → Go G d mc ms M tgt lv st h K) (kf : ¬ 0 ≤ X → Go G d mc ms M pc' lv st h K) : Go G d mc ms M pc lv (.int (iZ X) :: st) h K := Go_if_geZ hd ht hp (iZ_t hX) kt kf
theorem Go_icmp_geY {off : Int} (hd : decode M.2.2.1 pc = .ok (.if_icmp .ge off, 3)) (ht : (pc : Int) + off = (tgt : Int)) (hp : pc + 3 = pc') (hX : -2147483648 ≤ X ∧ X < 2147483648) (hY : -2147483648 ≤ Y ∧ Y < 2147483648) (kt : Y ≤ X → Go G d mc ms M tgt lv st h K) (kf : ¬ Y ≤ X → Go G d mc ms M pc' lv st h K) : Go G d mc ms M pc lv (.int (iZ Y) :: .int (iZ X) :: st) h K := Go_icmp_geZ hd ht hp (iZ_t hX) (iZ_t hY) kt kf
theorem Go_if_gtY {off : Int} (hd : decode M.2.2.1 pc = .ok (.ifCond .gt off, 3)) (ht : (pc : Int) + off = (tgt : Int)) (hp : pc + 3 = pc') (hX : -2147483648 ≤ X ∧ X < 2147483648) (kt : 0 < X → Go G d mc ms M tgt lv st h K) (kf : ¬ 0 < X → Go G d mc ms M pc' lv st h K) : Go G d mc ms M pc lv (.int (iZ X) :: st) h K := Go_if_gtZ hd ht hp (iZ_t hX) kt kf
theorem Go_icmp_gtY {off : Int} (hd : decode M.2.2.1 pc = .ok (.if_icmp .gt off, 3)) (ht : (pc : Int) + off = (tgt : Int)) (hp : pc + 3 = pc') (hX : -2147483648 ≤ X ∧ X < 2147483648) (hY : -2147483648 ≤ Y ∧ Y < 2147483648) (kt : Y < X → Go G d mc ms M tgt lv st h K) (kf : ¬ Y < X → Go G d mc ms M pc' lv st h K) : Go G d mc ms M pc lv (.int (iZ Y) :: .int (iZ X) :: st) h K := Go_icmp_gtZ hd ht hp (iZ_t hX) (iZ_t hY) kt kf
theorem Go_if_leY {off : Int} (hd : decode M.2.2.1 pc = .ok (.ifCond .le off, 3)) (ht : (pc : Int) + off = (tgt : Int)) (hp : pc + 3 = pc') (hX : -2147483648 ≤ X ∧ X < 2147483648) (kt : X ≤ 0 → Go G d mc ms M tgt lv st h K) (kf : ¬ X ≤ 0 → Go G d mc ms M pc' lv st h K) : Go G d mc ms M pc lv (.int (iZ X) :: st) h K := Go_if_leZ hd ht hp (iZ_t hX) kt kf
theorem Go_icmp_leY {off : Int} (hd : decode M.2.2.1 pc = .ok (.if_icmp .le off, 3)) (ht : (pc : Int) + off = (tgt : Int)) (hp : pc + 3 = pc') (hX : -2147483648 ≤ X ∧ X < 2147483648) (hY : -2147483648 ≤ Y ∧ Y < 2147483648) (kt : X ≤ Y → Go G d mc ms M tgt lv st h K) (kf : ¬ X ≤ Y → Go G d mc ms M pc' lv st h K) : Go G d mc ms M pc lv (.int (iZ Y) :: .int (iZ X) :: st) h K := Go_icmp_leZ hd ht hp (iZ_t hX) (iZ_t hY) kt kf
variable {i n k : Nat} {E : Int}
theorem iz_ix (e : X = (k : Int)) (hk : k < n) (hn : n ≤ 100000) : inR (iZ X) n := by rw [e, iZ_nat]; exact inR_nI hk hn
theorem iz_cl (e : X = (k : Int)) (hk : k < n) (hn : n ≤ 100000) : (iZ X).toNatClampNeg = k := by rw [e, iZ_nat]; exact nI_clamp (by omega)
theorem Go_ialoadZ {v : Int32} (hd : decode M.2.2.1 pc = .ok (.iaload, 1)) (hp : pc + 1 = pc') (hi : 64 ≤ i ∧ i < 64 + hN h) (hkd : ki h i = (20, n)) (hX : X = (k : Int)) (hk : k < n) (hn : n ≤ 100000) (hv : vi h i k = v) (kk : Go G d mc ms M pc' lv (.int v :: st) h K) : Go G d mc ms M pc lv (.int (iZ X) :: .ref i :: st) h K := Go_iaload hd hp hi hkd (iz_ix hX hk hn) (by rw [iz_cl hX hk hn]; exact hv) kk
theorem Go_baloadZ {v : Int32} (hd : decode M.2.2.1 pc = .ok (.baload, 1)) (hp : pc + 1 = pc') (hi : 64 ≤ i ∧ i < 64 + hN h) (hkd : ki h i = (21, n)) (hX : X = (k : Int)) (hk : k < n) (hn : n ≤ 100000) (hv : vi h i k = v) (kk : Go G d mc ms M pc' lv (.int v :: st) h K) : Go G d mc ms M pc lv (.int (iZ X) :: .ref i :: st) h K := Go_baload hd hp hi hkd (iz_ix hX hk hn) (by rw [iz_cl hX hk hn]; exact hv) kk
theorem Go_iastoreZ {v : Int32} (hd : decode M.2.2.1 pc = .ok (.iastore, 1)) (hp : pc + 1 = pc') (hi : 64 ≤ i ∧ i < 64 + hN h) (hkd : ki h i = (20, n)) (hX : X = (k : Int)) (hk : k < n) (hn : n ≤ 100000) (kk : Go G d mc ms M pc' lv st (wI h i k v) K) : Go G d mc ms M pc lv (.int v :: .int (iZ X) :: .ref i :: st) h K := Go_iastore hd hp hi hkd (iz_ix hX hk hn) (by rw [iz_cl hX hk hn]; exact kk)
theorem Go_bastoreZ {v : Int32} (hd : decode M.2.2.1 pc = .ok (.bastore, 1)) (hp : pc + 1 = pc') (hi : 64 ≤ i ∧ i < 64 + hN h) (hkd : ki h i = (21, n)) (hX : X = (k : Int)) (hk : k < n) (hn : n ≤ 100000) (hv : vp_nar .boolean v = v) (kk : Go G d mc ms M pc' lv st (wI h i k v) K) : Go G d mc ms M pc lv (.int v :: .int (iZ X) :: .ref i :: st) h K := Go_bastore hd hp hi hkd (iz_ix hX hk hn) hv (by rw [iz_cl hX hk hn]; exact kk)
theorem Go_aaloadZ {t r : Nat} {j : Nat} (hd : decode M.2.2.1 pc = .ok (.aaload, 1)) (hp : pc + 1 = pc') (hi : 64 ≤ i ∧ i < 64 + hN h) (hkd : ki h i = (t, n)) (hj : aTy t = some j) (hX : X = (k : Int)) (hk : k < n) (hn : n ≤ 100000) (hv : ri h i k = some r) (kk : Go G d mc ms M pc' lv (.ref r :: st) h K) : Go G d mc ms M pc lv (.int (iZ X) :: .ref i :: st) h K := Go_aaloads hd hp hi hkd hj (iz_ix hX hk hn) (by rw [iz_cl hX hk hn]; exact hv) kk
theorem Go_alenZ {t : Nat} (hd : decode M.2.2.1 pc = .ok (.arraylength, 1)) (hp : pc + 1 = pc') (hi : 64 ≤ i ∧ i < 64 + hN h) (hkd : ki h i = (t, n)) (hj : t = 20 ∨ t = 21 ∨ ∃ j, aTy t = some j) (kk : Go G d mc ms M pc' lv (.int (iZ (n : Int)) :: st) h K) : Go G d mc ms M pc lv (.ref i :: st) h K := Go_alen hd hp hi hkd hj (iZ_nat n).symm kk
theorem Go_iincZ {i : Nat} {n : Int} (hd : decode M.2.2.1 pc = .ok (.iinc i n, 3)) (hp : pc + 3 = pc') (hx : lv[i]? = some (.int (iZ X))) (hi : i < M.2.2.2.1) (hn : nl lv i = true) (hl : lv.set i (.int (iZ (X + n))) = lv') (k : Go G d mc ms M pc' lv' st h K) : Go G d mc ms M pc lv st h K := Go_iinc hd hp hx (iZ_add X n) hi hn hl k
theorem Go_ishlZ (hd : decode M.2.2.1 pc = .ok (.ishl, 1)) (hp : pc + 1 = pc') (k : Go G d mc ms M pc' lv (.int (iZ X <<< (iZ Y &&& 31)) :: st) h K) : Go G d mc ms M pc lv (.int (iZ Y) :: .int (iZ X) :: st) h K := Go_ishl hd hp k
end
theorem i_eta (a : Int32) : ∃ A : Int, (-2147483648 ≤ A ∧ A < 2147483648) ∧ a = iZ A := ⟨a.toInt, ⟨i_lo a, i_hi a⟩, (iZ_self a).symm⟩
theorem vi_eta (h : HS) (o k : Nat) : vi h o k = iZ (vi h o k).toInt := (iZ_self _).symm
section
variable {G : GC} {d mc ms : Nat} {h : HS} {K : Option Value → HS → Prop} {X Y v l u : Int}
theorem s_withinY (hv : -2147483648 ≤ v ∧ v < 2147483648) (hl : -2147483648 ≤ l ∧ l < 2147483648) (hu : -2147483648 ≤ u ∧ u < 2147483648) (hk : K (some (.int (b2i (l ≤ v ∧ v ≤ u)))) h) : Go G d mc ms M_X11_within 0 [.int (iZ v), .int (iZ l), .int (iZ u)] [] h K := by
  refine s_withinZ (iZ_t hl) (iZ_t hu) ?_
  rw [iZ_t hv]; exact hk
theorem s_isInY (hv : -2147483648 ≤ v ∧ v < 2147483648) (hl : -2147483648 ≤ l ∧ l < 2147483648) (hu : -2147483648 ≤ u ∧ u < 2147483648) (hk : K (some (.int (b2i (l ≤ v ∧ v ≤ u)))) h) : Go G d mc ms M_X12_isIn 0 [.int (iZ v), .int (iZ l), .int (iZ u)] [] h K := by
  refine s_isInZ (iZ_t hl) (iZ_t hu) ?_
  rw [iZ_t hv]; exact hk
theorem s_isCellY (hX : -2147483648 ≤ X ∧ X < 2147483648) (hY : -2147483648 ≤ Y ∧ Y < 2147483648) (hk : K (some (.int (b2i ((0 ≤ X ∧ X ≤ 39) ∧ (0 ≤ Y ∧ Y ≤ 39))))) h) : Go G (d + 1) mc ms M_X11_isCell 0 [.int (iZ X), .int (iZ Y)] [] h K := by
  refine s_isCellZ ?_
  rw [iZ_t hX, iZ_t hY]; exact hk
theorem s_isCellMY (hX : -2147483648 ≤ X ∧ X < 2147483648) (hY : -2147483648 ≤ Y ∧ Y < 2147483648) (hk : K (some (.int (b2i ((0 ≤ X ∧ X ≤ 39) ∧ (0 ≤ Y ∧ Y ≤ 39))))) h) : Go G (d + 1) mc ms M_X12_isCell 0 [.int (iZ X), .int (iZ Y)] [] h K := by
  refine s_isCellMZ ?_
  rw [iZ_t hX, iZ_t hY]; exact hk
theorem s_maxY (hX : -2147483648 ≤ X ∧ X < 2147483648) (hY : -2147483648 ≤ Y ∧ Y < 2147483648) (hk : K (some (.int (iZ (max X Y)))) h) : Go G d mc ms M_J9_max_7cf53 0 [.int (iZ X), .int (iZ Y)] [] h K := by
  refine s_max ?_
  have : imax (iZ X) (iZ Y) = iZ (max X Y) := by
    unfold imax
    by_cases c : X < Y
    · rw [if_pos (by rw [i_lt, iZ_t hX, iZ_t hY]; exact c), show max X Y = Y by omega]
    · rw [if_neg (by rw [i_lt, iZ_t hX, iZ_t hY]; exact c), show max X Y = X by omega]
  rw [this]; exact hk
theorem s_minY (hX : -2147483648 ≤ X ∧ X < 2147483648) (hY : -2147483648 ≤ Y ∧ Y < 2147483648) (hk : K (some (.int (iZ (min X Y)))) h) : Go G d mc ms M_J9_min_7cf53 0 [.int (iZ X), .int (iZ Y)] [] h K := by
  refine s_min ?_
  have : imin (iZ X) (iZ Y) = iZ (min X Y) := by
    unfold imin
    by_cases c : Y < X
    · rw [if_pos (by rw [i_lt, iZ_t hX, iZ_t hY]; exact c), show min X Y = Y by omega]
    · rw [if_neg (by rw [i_lt, iZ_t hX, iZ_t hY]; exact c), show min X Y = X by omega]
  rw [this]; exact hk
theorem iabs_Y (hX : -2147483648 < X ∧ X < 2147483648) : iabs (iZ X) = iZ (X.natAbs : Int) := by
  unfold iabs
  by_cases c : X < 0
  · rw [if_pos (by rw [i_lt, iZ_t (by omega)]; exact c), iZ_neg, show ((X.natAbs : Nat) : Int) = -X by omega]
  · rw [if_neg (by rw [i_lt, iZ_t (by omega)]; exact c), show ((X.natAbs : Nat) : Int) = X by omega]
theorem s_absY (hX : -2147483648 < X ∧ X < 2147483648) (hk : K (some (.int (iZ (X.natAbs : Int)))) h) : Go G d mc ms M_J9_abs_0f7a4 0 [.int (iZ X)] [] h K := by
  refine s_abs ?_
  rw [iabs_Y hX]; exact hk
theorem s_farY (hX : -2147483648 < X ∧ X < 2147483648) (hk : K (some (.int (iZ (X.natAbs : Int)))) h) : Go G d mc ms M_X12_far 0 [.int (iZ X)] [] h K := by
  refine s_far ?_
  rw [iabs_Y hX]; exact hk
theorem xor_pos {x y : Int32} (hy : 0 ≤ y.toInt) : (0 ≤ x ^^^ y) ↔ 0 ≤ x.toInt := by
  rw [i_le]
  show (0 : Int) ≤ (x ^^^ y).toBitVec.toInt ↔ 0 ≤ x.toBitVec.toInt
  have hy' : 0 ≤ y.toBitVec.toInt := hy
  rw [Int32.toBitVec_xor]
  have m (z : BitVec 32) : 0 ≤ z.toInt ↔ z.msb = false := by
    rw [BitVec.msb_eq_toInt]; simp
  rw [m] at hy'
  rw [m, m, BitVec.msb_xor, hy']; simp
theorem ifdiv_Y (hX : -2147483648 < X ∧ X < 2147483648) (hY : 0 < Y ∧ Y < 2147483648) : ifdiv (iZ X) (iZ Y) = iZ (X / Y) := by
  unfold ifdiv
  have t := Int.tdiv_eq_ediv (a := X) (b := Y)
  have e1 := Int.mul_tdiv_add_tmod X Y
  by_cases c : 0 ≤ X
  · rw [if_pos (by rw [xor_pos (by rw [iZ_t (by omega)]; omega), iZ_t (by omega)]; exact c), iZ_div (by omega) hY]
  · rw [if_neg (by rw [xor_pos (by rw [iZ_t (by omega)]; omega), iZ_t (by omega)]; exact c), iZ_tdiv hX (by omega), iZ_mul]
    have dv : Y ∣ X ↔ X.tdiv Y * Y = X := ⟨fun q => Int.tdiv_mul_cancel q, fun q => ⟨X.tdiv Y, by rw [Int.mul_comm]; exact q.symm⟩⟩
    have bd : -2147483648 ≤ X.tdiv Y * Y ∧ X.tdiv Y * Y < 2147483648 := by
      have z1 : X.tdiv Y * Y = X - X.tmod Y := by rw [Int.mul_comm]; omega
      have z2 := Int.lt_tmod_of_pos X hY.1
      have z3 : X.tmod Y ≤ 0 := by
        have := Int.tmod_nonneg (a := -X) Y (by omega)
        rw [Int.neg_tmod] at this; omega
      have z4 : X ≤ X.tmod Y := by
        have z5 : (-X).tmod Y ≤ -X := by rw [Int.tmod_eq_emod_of_nonneg (by omega)]; have w1 := Int.mul_ediv_add_emod (-X) Y; have w2 := Int.mul_nonneg (a := Y) (b := (-X) / Y) (by omega) (Int.ediv_nonneg (by omega) (by omega)); omega
        rw [Int.neg_tmod] at z5; omega
      omega
    by_cases q : X.tdiv Y * Y = X
    · rw [if_pos (by rw [q])]
      rw [if_pos (Or.inr (dv.2 q))] at t
      rw [t]; congr 1; omega
    · rw [if_neg (fun w => q (iZ_inj bd (by omega) w))]
      rw [if_neg (fun w => w.elim c (fun w => q (dv.1 w)))] at t
      rw [Int.sign_eq_one_of_pos hY.1] at t
      rw [t, show (1 : Int32) = iZ 1 from rfl, iZ_sub]; congr 1; omega
theorem s_fdivY (hX : -2147483648 < X ∧ X < 2147483648) (hY : 0 < Y ∧ Y < 2147483648) (hk : K (some (.int (iZ (X / Y)))) h) : Go G d mc ms M_J9_floorDiv_7cf53 0 [.int (iZ X), .int (iZ Y), un] [] h K := by
  refine s_fdiv (iZ_ne0 (by omega) (by omega)) ?_
  rw [ifdiv_Y hX hY]; exact hk
end
