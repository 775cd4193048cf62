/-! THE START: what the machine holds as the law is entered -/
theorem pairs_all {G : GC} (p16 : PairI G M_X11_rules M_X12_rules []) : Pairs G := ⟨fun a b => pair0 a b, fun a b c e => pair1 a b c e, fun a b => pair2 a b, fun a b c => pair3 a b c, fun a => pair4 a, fun a b => pair5 a b, fun a b => pair6 a b, fun a b c e => pair7 a b c e, fun a b c => pair8 a b c, fun a b c e => pair9 a b c e, fun a b c => pair10 a b c, fun a b => pair11 a b, fun a b c e => pair12 a b c e, fun a b c e f => pair13 a b c e f, fun a b c e f => pair14 a b c e f, fun a => pair15 a, p16, fun a => pair17 a, fun a b => pair18 a b, pair19, fun a b c e => pair20 a b c e, fun a b c e => pair21 a b c e, fun a b c e => pair22 a b c e, fun a b c => pair23 a b c, fun a b c => pair24 a b c, fun a => pair25 a, fun a b c => pair26 a b c, fun a => pair27 a, fun a b => pair28 a b, fun a b c e => pair29 a b c e, fun a b c => pair30 a b c, fun a => pair31 a, fun a => pair32 a, fun a => pair33 a, fun a b c => pair34 a b c, fun a b c e f => pair35 a b c e f, fun a b c => pair36 a b c, fun a b c => pair37 a b c, fun a b c => pair38 a b c, fun a => pair39 a, fun a => pair40 a⟩
theorem inst_all {t : Nat} (h : t < 13) : Cond.instantiable (clN t) (nF t) ∈ Tg := by
  match t, h with
  | 0, _ => exact inst0
  | 1, _ => exact inst1
  | 2, _ => exact inst2
  | 3, _ => exact inst3
  | 4, _ => exact inst4
  | 5, _ => exact inst5
  | 6, _ => exact inst6
  | 7, _ => exact inst7
  | 8, _ => exact inst8
  | 9, _ => exact inst9
  | 10, _ => exact inst10
  | 11, _ => exact inst11
  | 12, _ => exact inst12
def siteK (j : Nat) : Nat := [171, 173, 175, 177, 179, 181, 183, 185, 187, 189, 191, 192, 194, 196, 149].getD j 0
def siteM (j : Nat) : Nat := [222, 228, 230, 232, 234, 236, 238, 240, 242, 244, 245, 246, 248, 250].getD j 0
def siteT (j : Nat) : String := ["truck", "blast", "quake", "when", "or", "and", "not", "hour", "day", "peak", "length", "crossings", "rise", "clipped", ";+-*/()<=>"].getD j ""
def FL : List Cond := flatC (Jvm.Cond.and given_1 narrow_1)
abbrev tmS (j : Nat) : Term := .string RX9 (siteK j)
abbrev tmV (j : Nat) : Term := .field (tmS j) "java/lang/String" "value" "[B"
theorem fw_ex : ∀ j, j < 15 → Cond.exactly (tmS j) "java/lang/String" ∈ FL := by decide +kernel
theorem fw_co : ∀ j, j < 15 → Cond.eq (.field (tmS j) "java/lang/String" "coder" "B") (.int 0) ∈ FL := by decide +kernel
theorem fw_ar : ∀ j, j < 15 → Cond.arrayOf (tmV j) .byte ∈ FL := by decide +kernel
theorem fw_le : ∀ j, j < 15 → Cond.eq (.length (tmV j)) (.int (Int32.ofNat (strT j).length)) ∈ FL := by decide +kernel
theorem fw_el : ∀ j, j < 15 → ∀ k, k < (strT j).length → Cond.eq (.elem (tmV j) (.int (Int32.ofNat k))) (.int ((strT j).getD k 0)) ∈ FL := by decide +kernel
theorem fw_eq : ∀ j, j < 14 → Cond.eq (tmS j) (.string RX12 (siteM j)) ∈ FL := by decide +kernel
theorem fw_cs : Cond.eq (.static "java/lang/String" "COMPACT_STRINGS" "Z") (.int 1) ∈ FL := by decide +kernel
theorem fw_sf : Cond.isRef (.static "jdk/internal/util/Preconditions" "SIOOBE_FORMATTER" "Ljava/util/function/BiFunction;") ∈ FL := by decide +kernel
theorem ln_15 : ∀ j, j < 15 → (strT j).length < 2 ^ 31 := by decide
theorem site_9 : ∀ q ∈ siteL, (q.1 = RX9 ∧ q.2.2.2 < 15 ∧ q.2.1 = siteK q.2.2.2) ∨ (q.1 = RX12 ∧ q.2.2.2 < 14 ∧ q.2.1 = siteM q.2.2.2) := by decide +kernel
theorem site_w : ∀ q ∈ siteL, Cond.stringRef q.1 q.2.1 q.2.2.1 ∈ lw_tbl := by decide +kernel
theorem tb_w : Cond.arrayClass .int ∈ lw_tbl ∧ Cond.arrayClass .boolean ∈ lw_tbl ∧ Cond.arrayOver (.object RX2) ∈ lw_tbl ∧ Cond.arrayOver (.object RX5) ∈ lw_tbl ∧ Cond.arrayOver (.object RX6) ∈ lw_tbl := by decide +kernel
theorem tb_n : Cond.methodLinkNest RX11 24 yX7_init RX11 ∈ lw_tbl ∧ Cond.methodLinkNest RX5 24 yX6_init RX11 ∈ lw_tbl ∧ Cond.methodLinkNest RX10 16 yX11_within RX11 ∈ lw_tbl := by decide +kernel
theorem tb_s : Cond.laysStatic "java/lang/String" "COMPACT_STRINGS" "Z" ∈ lw_tbl ∧ Cond.initialized "java/lang/String" ∈ lw_tbl ∧ Cond.laysStatic "jdk/internal/util/Preconditions" "SIOOBE_FORMATTER" "Ljava/util/function/BiFunction;" ∈ lw_tbl ∧ Cond.initialized "jdk/internal/util/Preconditions" ∈ lw_tbl := by decide +kernel
