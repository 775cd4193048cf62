/-! the class reads a tape to its end -/
theorem nvs_r {T : Nat → Int} : ∀ (m k i : Nat) (v : Int), skp diB T m i ≤ i + k → 0 ≤ v → 0 ≤ nvs T m i v ∧ nvs T m i v < (v + 1) * 10 ^ k
  | 0, k, i, v, _, hv => by
    have h1 : (1 : Int) ≤ 10 ^ k := by
      have := Nat.one_le_pow k 10 (by omega)
      exact_mod_cast this
    have h2 : (v + 1) * 1 ≤ (v + 1) * 10 ^ k := Int.mul_le_mul_of_nonneg_left h1 (by omega)
    exact ⟨hv, by show v < _; omega⟩
  | m + 1, k, i, v, h, hv => by
    by_cases e : diB (T i) = true
    · rw [skp_t e] at h
      have sr := skp_r (f := diB) (T := T) m (i + 1)
      obtain ⟨k', rfl⟩ : ∃ k', k = k' + 1 := ⟨k - 1, by omega⟩
      have e1 := e
      unfold diB at e1
      rw [decide_eq_true_iff] at e1
      have ih := nvs_r (T := T) m k' (i + 1) (10 * v + T i - 48) (by omega) (by omega)
      rw [nvs_t e]
      refine ⟨ih.1, Int.lt_of_lt_of_le ih.2 ?_⟩
      rw [Int.pow_succ, Int.mul_comm (10 ^ k') 10, ← Int.mul_assoc]
      exact Int.mul_le_mul_of_nonneg_right (by omega) (Int.le_of_lt (Int.pow_pos (by omega)))
    · rw [nvs_f e]
      have h1 : (1 : Int) ≤ 10 ^ k := by
        have := Nat.one_le_pow k 10 (by omega)
        exact_mod_cast this
      have h2 : (v + 1) * 1 ≤ (v + 1) * 10 ^ k := Int.mul_le_mul_of_nonneg_left h1 (by omega)
      exact ⟨hv, by omega⟩
theorem tC_r {T : Nat → Int} {n pos : Nat} (hT : ∀ i, i < n → 0 ≤ T i ∧ T i ≤ 255) : 0 ≤ tC T n pos ∧ tC T n pos ≤ 355 := by
  by_cases c0 : n ≤ tP T n pos
  · rw [tC_fin c0]; omega
  · have hp := hT (tP T n pos) (by omega)
    by_cases cl : leB (T (tP T n pos)) = true
    · rw [tC_let c0 cl]
      have := kwf_r (T := T) (p := tP T n pos) (e := tE T n pos) 14 0
      omega
    · by_cases cd : diB (T (tP T n pos)) = true
      · rw [tC_dig c0 cl cd]; split <;> omega
      · rw [tC_sig c0 cl cd]; split <;> omega
theorem tV_r {T : Nat → Int} {n pos : Nat} (h : tC T n pos = 20) : 0 ≤ tV T n pos ∧ tV T n pos ≤ 9999 := by
  by_cases c0 : n ≤ tP T n pos
  · rw [tC_fin c0] at h; omega
  · by_cases cl : leB (T (tP T n pos)) = true
    · rw [tC_let c0 cl] at h
      have := kwf_r (T := T) (p := tP T n pos) (e := tE T n pos) 14 0
      omega
    · by_cases cd : diB (T (tP T n pos)) = true
      · rw [tC_dig c0 cl cd] at h
        have h4 : tE T n pos ≤ tP T n pos + 4 := by
          by_cases z : tE T n pos ≤ tP T n pos + 4
          · exact z
          · rw [if_neg z] at h; omega
        rw [tE_dig c0 cl cd] at h4
        have := nvs_r (T := T) (n - tP T n pos) 4 (tP T n pos) 0 h4 (by omega)
        unfold tV
        omega
      · rw [tC_sig c0 cl cd] at h
        exfalso
        by_cases z : sgn (T (tP T n pos))
        · rw [if_pos z] at h; omega
        · rw [if_neg z] at h; omega
/-- the reader's run: kind of the fault (0: none), its place, where it stands -/
def rn (T : Nat → Int) (n : Nat) : Nat → Nat → St6 → Int × Int × St6
  | 0, _, s => (0, 0, s)
  | m + 1, pos, s => if tC T n pos = 21 ∧ s.1 = 0 then (0, 0, s) else if (zst (tC T n pos) (tV T n pos) s).1 = 0 then rn T n m (tE T n pos) (zst (tC T n pos) (tV T n pos) s).2 else ((zst (tC T n pos) (tV T n pos) s).1, (tP T n pos : Int), (zst (tC T n pos) (tV T n pos) s).2)
theorem rn_e {T : Nat → Int} {n m pos : Nat} {s : St6} (h : tC T n pos = 21 ∧ s.1 = 0) : rn T n (m + 1) pos s = (0, 0, s) := by show (if _ then _ else _) = _; rw [if_pos h]
theorem rn_s {T : Nat → Int} {n m pos : Nat} {s : St6} (h : ¬ (tC T n pos = 21 ∧ s.1 = 0)) (h1 : (zst (tC T n pos) (tV T n pos) s).1 = 0) : rn T n (m + 1) pos s = rn T n m (tE T n pos) (zst (tC T n pos) (tV T n pos) s).2 := by show (if _ then _ else (if _ then _ else _)) = _; rw [if_neg h, if_pos h1]
theorem rn_b {T : Nat → Int} {n m pos : Nat} {s : St6} (h : ¬ (tC T n pos = 21 ∧ s.1 = 0)) (h1 : ¬ (zst (tC T n pos) (tV T n pos) s).1 = 0) : rn T n (m + 1) pos s = ((zst (tC T n pos) (tV T n pos) s).1, (tP T n pos : Int), (zst (tC T n pos) (tV T n pos) s).2) := by show (if _ then _ else (if _ then _ else _)) = _; rw [if_neg h, if_neg h1]

