/-! ===== pure words, and the contracts of the leaves ===== -/
abbrev xE0 (Y : xY) (d : Nat) : xE := (Y, d, xB0, none)
/-- a Plan stands at P, a Moment at m -/
def xPl (P : Nat) : Prop := xShp[P]? = some (.inr (3, [some (P + 1), some (P + 2), some (P + 3), some (P + 4), some (P + 5), none, none, none])) ∧ xShp[P + 1]? = some (.inl (0, 8, none)) ∧ xShp[P + 2]? = some (.inl (0, 8, none)) ∧ xShp[P + 3]? = some (.inl (0, 8, none)) ∧ xShp[P + 4]? = some (.inl (0, 8, none)) ∧ xShp[P + 5]? = some (.inl (0, 8, none))
def xMo (m : Nat) : Prop := xShp[m]? = some (.inr (1, [some (m + 1), some (m + 2), none, none])) ∧ xShp[m + 1]? = some (.inl (0, 8, none)) ∧ xShp[m + 2]? = some (.inl (0, 8, none))
theorem pl_3 : xPl 3 := ⟨rfl, rfl, rfl, rfl, rfl, rfl⟩
theorem pl_9 : xPl 9 := ⟨rfl, rfl, rfl, rfl, rfl, rfl⟩
def bI (b : Bool) : Int32 := if b then 1 else 0
def zB (c : Prop) [Decidable c] : Int32 := if c then 1 else 0
set_option maxRecDepth 100000 in
theorem k_has (σ : Sg) {P : Nat} (hP : xPl P) (s : Int32) : Cm 0 YX3_has [.ref P, .int s] σ (fun v σ' => v = some (.int (zB (¬ s < 0 ∧ s < σ P 5 ∧ s < 8))) ∧ σ' = σ) := by
  refine Cm_of (by decide +kernel) (by decide) ?_
  refine x_iload_n dX3_has_0 rfl ?_
  refine x_if_lt (tgt := 22) dX3_has_1 (by decide) (fun c_1 => ?_) (fun c_1 => ?_)
  · refine x_iconst (v := 0) dX3_has_22 (by decide) ?_
    exact s_zret dX3_has_23 rfl (by first | exact Or.inl rfl | exact Or.inr rfl | assumption) (by unfold zB; simp_all)
  · refine x_iload_n dX3_has_4 rfl ?_
    refine x_aload_n dX3_has_5 rfl ?_
    refine s_geti (ci := 3) (k := 5) (N := 8) (C := RX3) (T := TX3) dX3_has_6 lfX3_27 inX3 rfl (by decide) (hP.1) rfl ?_
    refine x_icmp_ge (tgt := 22) dX3_has_9 (by decide) (fun c_9 => ?_) (fun c_9 => ?_)
    · refine x_iconst (v := 0) dX3_has_22 (by decide) ?_
      exact s_zret dX3_has_23 rfl (by first | exact Or.inl rfl | exact Or.inr rfl | assumption) (by unfold zB; simp_all)
    · refine x_iload_n dX3_has_12 rfl ?_
      refine x_bipush (v := 8) dX3_has_13 (by decide) ?_
      refine x_icmp_ge (tgt := 22) dX3_has_15 (by decide) (fun c_15 => ?_) (fun c_15 => ?_)
      · refine x_iconst (v := 0) dX3_has_22 (by decide) ?_
        exact s_zret dX3_has_23 rfl (by first | exact Or.inl rfl | exact Or.inr rfl | assumption) (by unfold zB; simp_all)
      · refine x_iconst (v := 1) dX3_has_18 (by decide) ?_
        refine x_goto (tgt := 23) dX3_has_19 (by decide) ?_
        exact s_zret dX3_has_23 rfl (by first | exact Or.inl rfl | exact Or.inr rfl | assumption) (by unfold zB; simp_all)
