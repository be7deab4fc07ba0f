/-! ===== from the law's entry to its end ===== -/
def xFL : List Cond := flatC (Jvm.Cond.and given_1 narrow_1)
def xtm (i : Nat) : Term := .string RX7 (xsi.getD i 0)
theorem fl_ex : ∀ i, i < 8 → Cond.exactly (xtm i) "java/lang/String" ∈ xFL := by decide +kernel
theorem fl_co : ∀ i, i < 8 → Cond.eq (.field (xtm i) "java/lang/String" "coder" "B") (.int 0) ∈ xFL := by decide +kernel
theorem fl_ar : ∀ i, i < 8 → Cond.arrayOf (.field (xtm i) "java/lang/String" "value" "[B") .byte ∈ xFL := by decide +kernel
theorem fl_le : ∀ i, i < 8 → Cond.eq (.length (.field (xtm i) "java/lang/String" "value" "[B")) (.int (Int32.ofNat (xlen.getD i 0))) ∈ xFL := by decide +kernel
theorem fl_el : ∀ i, i < 8 → ∀ j, j < xlen.getD i 0 → Cond.eq (.elem (.field (xtm i) "java/lang/String" "value" "[B") (.int (Int32.ofNat j))) (.int ((xbyt.getD i []).getD j 0)) ∈ xFL := by decide +kernel
theorem fl_ne : ∀ i, i < 8 → ∀ j, j < 8 → i ≠ j → Cond.not (Cond.eq (xtm i) (xtm j)) ∈ xFL ∨ Cond.not (Cond.eq (xtm j) (xtm i)) ∈ xFL := by decide +kernel
theorem fl_cs : Cond.eq (.static "java/lang/String" "COMPACT_STRINGS" "Z") (.int 1) ∈ xFL := by decide +kernel
theorem fl_fm : Cond.isRef (.static "jdk/internal/util/Preconditions" "SIOOBE_FORMATTER" xFm) ∈ xFL := by decide +kernel
theorem tb_sr : ∀ i, i < 8 → Cond.stringRef RX7 (xsi.getD i 0) (xst.getD i "") ∈ tables_1 := by decide +kernel
theorem tb_cs : Cond.laysStatic "java/lang/String" "COMPACT_STRINGS" "Z" ∈ tables_1 := by decide +kernel
theorem tb_fm : Cond.laysStatic "jdk/internal/util/Preconditions" "SIOOBE_FORMATTER" xFm ∈ tables_1 := by decide +kernel
theorem tb_ao : Cond.arrayOver (.object RX1) ∈ tables_1 := by decide +kernel
theorem tb_is : Cond.initialized "java/lang/String" ∈ tables_1 := by decide +kernel
theorem tb_ip : Cond.initialized "jdk/internal/util/Preconditions" ∈ tables_1 := by decide +kernel
theorem isRef_v {args : Array Value} {s : State} {C n d : String} (h : (Cond.isRef (.static C n d)).before args s = true) : ∃ v z, (Term.static C n d).eval args s none [] s = some v ∧ (v = .null ∨ v = .ref z) := by
  cases hv : (Term.static C n d).eval args s none [] s with
  | none => simp [Cond.before, Cond.holds, Cond.value, hv] at h
  | some w =>
    simp only [Cond.before, Cond.holds, Cond.value, hv] at h
    cases w with
    | ref a => exact ⟨_, a, rfl, Or.inr rfl⟩
    | null => exact ⟨_, 0, rfl, Or.inl rfl⟩
    | _ => simp at h
