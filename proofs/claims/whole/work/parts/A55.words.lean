/-! the start: what is given of constants, by the Statement's words -/
def nw : List Cond := flatC (Jvm.Cond.and given_1 narrow_1)
theorem st_ok : ∀ r ∈ stc, Cond.arrayOf (.static r.1 r.2.1 r.2.2.1) (aty r.2.2.2.1) ∈ nw ∧ Cond.eq (.length (.static r.1 r.2.1 r.2.2.1)) (.int (Int32.ofNat r.2.2.2.2.length)) ∈ nw ∧ Cond.laysStatic r.1 r.2.1 r.2.2.1 ∈ lw_tbl ∧ Cond.initialized r.1 ∈ lw_tbl ∧ r.2.2.2.2.length < 1000 := by decide +kernel
theorem st_el : ∀ r ∈ stc, ∀ j, j < r.2.2.2.2.length → Cond.eq (.elem (.static r.1 r.2.1 r.2.2.1) (.int (Int32.ofNat j))) (.int (r.2.2.2.2.getD j 0)) ∈ nw := by decide +kernel
def tmS (i : Nat) : Term := .string RX12 (([26, 32, 261, 267, 269, 277] : List Nat).getD i 0)
theorem sk_ok : ∀ i, i < 6 → Cond.exactly (tmS i) "java/lang/String" ∈ nw ∧ Cond.eq (.field (tmS i) "java/lang/String" "coder" "B") (.int 0) ∈ nw ∧ Cond.arrayOf (.field (tmS i) "java/lang/String" "value" "[B") .byte ∈ nw ∧ Cond.eq (.length (.field (tmS i) "java/lang/String" "value" "[B")) (.int (Int32.ofNat (stkL.getD i 0))) ∈ nw ∧ stkL.getD i 0 < 100 := by decide +kernel
theorem sk_el : ∀ i, i < 6 → ∀ j, j < stkL.getD i 0 → Cond.eq (.elem (.field (tmS i) "java/lang/String" "value" "[B") (.int (Int32.ofNat j))) (.int ((stkB.getD i []).getD j 0)) ∈ nw := by decide +kernel
theorem sk_ne : ∀ i, i < 6 → ∀ j, j < 6 → i ≠ j → Cond.not (Cond.eq (tmS i) (tmS j)) ∈ nw ∨ Cond.not (Cond.eq (tmS j) (tmS i)) ∈ nw := by decide +kernel
theorem sk_R : ∀ k, k < 6 → ∃ r, stk[k]? = some r ∧ Cond.stringRef RX12 r.1 r.2.1 ∈ lw_tbl ∧ tmS k = .string RX12 r.1 := by
  have h : ∀ k, k < 6 → (match stk[k]? with | some r => decide (Cond.stringRef RX12 r.1 r.2.1 ∈ lw_tbl) && decide (tmS k = .string RX12 r.1) | none => false) = true := by decide +kernel
  intro k hk
  have := h k hk
  split at this
  · next r hr => exact ⟨r, hr, by simpa using this⟩
  · cases this
theorem jd_ok : Cond.eq (.static "java/lang/String" "COMPACT_STRINGS" "Z") (.int 1) ∈ nw ∧ Cond.laysStatic "java/lang/String" "COMPACT_STRINGS" "Z" ∈ lw_tbl ∧ Cond.initialized "java/lang/String" ∈ lw_tbl ∧ Cond.isRef (.static "jdk/internal/util/Preconditions" "SIOOBE_FORMATTER" "Ljava/util/function/BiFunction;") ∈ nw ∧ Cond.laysStatic "jdk/internal/util/Preconditions" "SIOOBE_FORMATTER" "Ljava/util/function/BiFunction;" ∈ lw_tbl ∧ Cond.initialized "jdk/internal/util/Preconditions" ∈ lw_tbl ∧ Cond.isRef (.static Bundle.tN "UNASSIGNED_STACK" Bundle.steD) ∈ nw ∧ Cond.isRef (.static Bundle.tN "SUPPRESSED_SENTINEL" Bundle.listD) ∈ nw := by decide +kernel
