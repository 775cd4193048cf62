/-! numbers: Int32 by its Int -/
theorem i_lo (a : Int32) : -2147483648 ≤ a.toInt := Int32.le_toInt a
theorem i_hi (a : Int32) : a.toInt < 2147483648 := Int32.toInt_lt a
theorem i_lt {a b : Int32} : a < b ↔ a.toInt < b.toInt := Int32.lt_iff_toInt_lt
theorem i_le {a b : Int32} : a ≤ b ↔ a.toInt ≤ b.toInt := Int32.le_iff_toInt_le
theorem i_eq {a b : Int32} : a = b ↔ a.toInt = b.toInt := Int32.toInt_inj.symm
theorem i_bmod {x : Int} (h1 : -2147483648 ≤ x) (h2 : x < 2147483648) : x.bmod (2 ^ 32) = x := by
  simp only [Int.bmod]
  split <;> omega
theorem i_add {a b : Int32} (h1 : -2147483648 ≤ a.toInt + b.toInt) (h2 : a.toInt + b.toInt < 2147483648) : (a + b).toInt = a.toInt + b.toInt := by
  rw [Int32.toInt_add]; exact i_bmod h1 h2
theorem i_sub {a b : Int32} (h1 : -2147483648 ≤ a.toInt - b.toInt) (h2 : a.toInt - b.toInt < 2147483648) : (a - b).toInt = a.toInt - b.toInt := by
  rw [Int32.toInt_sub]; exact i_bmod h1 h2
theorem i_mul {a b : Int32} (h1 : -2147483648 ≤ a.toInt * b.toInt) (h2 : a.toInt * b.toInt < 2147483648) : (a * b).toInt = a.toInt * b.toInt := by
  rw [Int32.toInt_mul]; exact i_bmod h1 h2
theorem i_neg {a : Int32} (h1 : -2147483648 < a.toInt) : (-a).toInt = -a.toInt := by
  have := i_hi a
  rw [Int32.toInt_neg]; exact i_bmod (by omega) (by omega)
theorem i_div {a b : Int32} (h1 : -2147483648 < a.toInt) : (a / b).toInt = a.toInt.tdiv b.toInt := by
  have h2 := i_hi a
  rw [Int32.toInt_div]
  have h3 : (a.toInt.tdiv b.toInt).natAbs ≤ a.toInt.natAbs := by
    rw [Int.natAbs_tdiv]; exact Nat.div_le_self _ _
  exact i_bmod (by omega) (by omega)
theorem i_cl (a : Int32) : a.toNatClampNeg = a.toInt.toNat := rfl
theorem i_nI {n : Nat} (h : n < 2147483648) : (nI n).toInt = (n : Int) := nI_toInt h
theorem i_ofNat {n : Nat} (h : n < 2147483648) : (Int32.ofNat n).toInt = (n : Int) := nI_toInt h
theorem i_of {a : Int32} {n : Nat} (h : a.toInt = (n : Int)) : a = nI n := by
  have := i_hi a
  rw [i_eq, i_nI (by omega)]; exact h
theorem i_nat {a : Int32} (h : 0 ≤ a.toInt) : a = nI a.toInt.toNat := i_of (by omega)
theorem i_ix {a : Int32} {n : Nat} (h : a = nI n) (hn : n < 2147483648) : a.toNatClampNeg = n := by rw [h]; exact nI_clamp hn
theorem inR_nI {n N : Nat} (h : n < N) (hN : N ≤ 100000) : inR (nI n) N := by
  unfold inR; rw [i_nI (by omega)]; omega
theorem inR_of {a : Int32} {N : Nat} (h : inR a N) : ∃ n, n < N ∧ a = nI n ∧ a.toNatClampNeg = n := by
  refine ⟨a.toInt.toNat, ?_, i_nat h.1, i_cl a⟩
  have := h.1; have := h.2; omega
theorem i_zero : (0 : Int32).toInt = 0 := rfl
theorem i_inc {n : Nat} : nI n + 1 = nI (n + 1) := nI_1 n
