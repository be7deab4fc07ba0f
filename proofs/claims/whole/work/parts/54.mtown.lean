/-! ===== RainBallotModel: fault, lays, town ===== -/
set_option maxRecDepth 100000 in
theorem k_mfault (σ : Sg) {len n : Nat} {c : Nat → Nat} (hT : TM σ len c) (hn : σ 83 0 = nI n) (hn8 : n ≤ 8) : Cm 12 YX9_fault [.ref 81] σ (fun v σ' => F4 σ σ' ∧ v = some (.int (match rdA len c (plM n σ 83) with | .inl f => nI f | .inr _ => -1))) := by
  refine Cm_of (by decide +kernel) (Nat.le_of_ble_eq_true rfl) ?_
  have hr := k_reads σ hT hn hn8
  have hm1 : ∀ m : Nat, m ≤ 160 → ¬ nI m = -1 := fun m hm z => by have := nI_pos' (n := m) (by omega); rw [z] at this; exact absurd this (by decide)
  generalize rdA len c (plM n σ 83) = r at hr ⊢
  cases r with
  | inl f =>
    refine x_aload_n dX9_fault_0 rfl ?_
    refine s_callV dX9_fault_1 (hr) rfl w_X9_reads lmX9_107 im_X9_reads se_X9_reads rfl (rfl) rfl (Nat.le_of_ble_eq_true rfl) rfl (by decide) (fun v_1 σ_1 h_1 => ?_)
    obtain ⟨f4, rfl, h13⟩ := h_1
    refine x_iconst (v := -1) dX9_fault_4 (by decide) ?_
    refine x_icmp_ne (tgt := 15) dX9_fault_5 (by decide) (fun c_5 => (absurd rfl c_5)) (fun c_5 => ?_)
    refine x_aload_n dX9_fault_8 rfl ?_
    refine s_geti (ci := 9) (k := 13) (N := 20) (C := RX9) (T := TX9) dX9_fault_9 lfX9_65 inX9 rfl (by decide) (rfl) rfl ?_
    refine x_goto (tgt := 16) dX9_fault_12 (by decide) ?_
    exact s_iret dX9_fault_16 rfl (⟨f4, by rw [h13]⟩)
  | inr q =>
    refine x_aload_n dX9_fault_0 rfl ?_
    refine s_callV dX9_fault_1 (hr) rfl w_X9_reads lmX9_107 im_X9_reads se_X9_reads rfl (rfl) rfl (Nat.le_of_ble_eq_true rfl) rfl (by decide) (fun v_1 σ_1 h_1 => ?_)
    obtain ⟨f4, rfl, hd, q1, q2⟩ := h_1
    refine x_iconst (v := -1) dX9_fault_4 (by decide) ?_
    refine x_icmp_ne (tgt := 15) dX9_fault_5 (by decide) (fun c_5 => ?_) (fun c_5 => (absurd c_5 (hm1 q.1 (by omega))))
    refine x_iconst (v := -1) dX9_fault_15 (by decide) ?_
    exact s_iret dX9_fault_16 rfl (⟨f4, rfl⟩)
/-- a town laid out -/
def LY (n : Nat) (σ σ' : Sg) : Prop := moS n σ' = ((plM n σ 83).2.2.2.2.2.2.1, (plM n σ 83).2.2.2.2.2.1, -1, 0) ∧ σ' 81 6 = 0 ∧ σ' 81 10 = 0 ∧ (∀ i, i ≠ 6 → i ≠ 10 → σ' 81 i = σ 81 i) ∧ σ' 88 0 = 0 ∧ σ' 88 1 = 0 ∧ ∀ c, c ≠ 81 → c ≠ 85 → c ≠ 88 → σ' c = σ c
set_option maxRecDepth 100000 in
theorem k_lays (σ : Sg) {n : Nat} (hn8 : n ≤ 8) : Cm 0 YX9_lays [.ref 81] σ (fun v σ' => v = none ∧ LY n σ σ') := by
  refine Cm_of (by decide +kernel) (Nat.le_of_ble_eq_true rfl) ?_
  have loop : ∀ (j k : Nat) (W : FN), k + j = 8 → (∀ i, i < k → W i = σ 83 (27 + i) ∧ W (8 + i) = σ 83 (19 + i)) → Ex (YX9_lays, 0, xB0, none) 2 [.ref 81, .int (nI k)] [] (xMs (sw σ 85 W)) (xQ (fun v σ' => v = none ∧ LY n σ σ')) := by
    intro j
    induction j with
    | zero =>
      intro k W hk hW
      obtain rfl : k = 8 := by omega
      refine x_iload_n dX9_lays_2 rfl ?_
      refine x_bipush (v := 8) dX9_lays_3 (by decide) ?_
      refine x_icmp_ge (tgt := 47) dX9_lays_5 (by decide) (fun c_5 => ?_) (fun c_5 => (absurd (by decide) c_5))
      refine x_aload_n dX9_lays_47 rfl ?_
      refine s_getr (ci := 9) (k := 4) (N := 20) (C := RX9) (T := TX9) dX9_lays_48 lfX9_19 inX9 rfl (by decide) (rfl) rfl ?_
      refine x_bipush (v := 16) dX9_lays_51 (by decide) ?_
      refine x_iconst (v := 0) dX9_lays_53 (by decide) ?_
      refine s_iast dX9_lays_54 (rfl) (j := 16) (hi := by decide) (hj := by omega) (hn := by decide) ?_
      refine xname (fun σ_54 e_54 => ?_)
      refine x_aload_n dX9_lays_55 rfl ?_
      refine s_getr (ci := 9) (k := 4) (N := 20) (C := RX9) (T := TX9) dX9_lays_56 lfX9_19 inX9 rfl (by decide) (rfl) rfl ?_
      refine x_bipush (v := 17) dX9_lays_59 (by decide) ?_
      refine x_iconst (v := -1) dX9_lays_61 (by decide) ?_
      refine s_iast dX9_lays_62 (rfl) (j := 17) (hi := by decide) (hj := by omega) (hn := by decide) ?_
      refine xname (fun σ_62 e_62 => ?_)
      refine x_aload_n dX9_lays_63 rfl ?_
      refine x_iconst (v := 0) dX9_lays_64 (by decide) ?_
      refine s_puti (ci := 9) (k := 6) (N := 20) (C := RX9) (T := TX9) (ty0 := tyX9) dX9_lays_65 lfX9_101 inX9 tyX9_ok nmX9 rfl (by decide) rfl rfl (rfl) rfl ?_
      refine xname (fun σ_65 e_65 => ?_)
      refine x_aload_n dX9_lays_68 rfl ?_
      refine x_iconst (v := 0) dX9_lays_69 (by decide) ?_
      refine s_puti (ci := 9) (k := 10) (N := 20) (C := RX9) (T := TX9) (ty0 := tyX9) dX9_lays_70 lfX9_104 inX9 tyX9_ok nmX9 rfl (by decide) rfl rfl (rfl) rfl ?_
      refine xname (fun σ_70 e_70 => ?_)
      refine x_aload_n dX9_lays_73 rfl ?_
      refine s_getr (ci := 9) (k := 8) (N := 20) (C := RX9) (T := TX9) dX9_lays_74 lfX9_28 inX9 rfl (by decide) (rfl) rfl ?_
      refine x_iconst (v := 0) dX9_lays_77 (by decide) ?_
      refine x_iconst (v := 0) dX9_lays_78 (by decide) ?_
      refine s_zast dX9_lays_79 (rfl) (j := 0) (hi := by decide) (hj := by omega) (hn := by decide) ?_
      refine xname (fun σ_79 e_79 => ?_)
      refine x_aload_n dX9_lays_80 rfl ?_
      refine s_getr (ci := 9) (k := 8) (N := 20) (C := RX9) (T := TX9) dX9_lays_81 lfX9_28 inX9 rfl (by decide) (rfl) rfl ?_
      refine x_iconst (v := 1) dX9_lays_84 (by decide) ?_
      refine x_iconst (v := 0) dX9_lays_85 (by decide) ?_
      refine s_zast dX9_lays_86 (rfl) (j := 1) (hi := by decide) (hj := by omega) (hn := by decide) ?_
      refine xname (fun σ_86 e_86 => ?_)
      refine s_ret dX9_lays_87 rfl ?_
      have e : ∀ i, i ≠ 16 → i ≠ 17 → σ_86 85 i = W i := fun i a b => by rw [e_86, sg_n _ _ _ (by decide), e_79, sg_n _ _ _ (by decide), e_70, sg_n _ _ _ (by decide), e_65, sg_n _ _ _ (by decide), e_62, sg_k _ _ _ b, e_54, sg_k _ _ _ a, sw_s]
      refine ⟨rfl, ?_, ?_, ?_, fun i a b => ?_, ?_, ?_, fun c a b d => ?_⟩
      · unfold moS
        refine congr (congrArg Prod.mk ?_) (congr (congrArg Prod.mk ?_) (congr (congrArg Prod.mk ?_) ?_))
        · exact tr_ext fun i hi => by rw [e i (by omega) (by omega)]; exact (hW i (by omega)).1
        · exact tr_ext fun i hi => by rw [e (8 + i) (by omega) (by omega)]; exact (hW i (by omega)).2
        · rw [e_86, sg_n _ _ _ (by decide), e_79, sg_n _ _ _ (by decide), e_70, sg_n _ _ _ (by decide), e_65, sg_n _ _ _ (by decide), e_62, sg_s]
        · rw [e_86, sg_n _ _ _ (by decide), e_79, sg_n _ _ _ (by decide), e_70, sg_n _ _ _ (by decide), e_65, sg_n _ _ _ (by decide), e_62, sg_k _ _ _ (by decide), e_54, sg_s]
      · rw [e_86, sg_n _ _ _ (by decide), e_79, sg_n _ _ _ (by decide), e_70, sg_k _ _ _ (by decide), e_65, sg_s]
      · rw [e_86, sg_n _ _ _ (by decide), e_79, sg_n _ _ _ (by decide), e_70, sg_s]
      · rw [e_86, sg_n _ _ _ (by decide), e_79, sg_n _ _ _ (by decide), e_70, sg_k _ _ _ b, e_65, sg_k _ _ _ a, e_62, sg_n _ _ _ (by decide), e_54, sg_n _ _ _ (by decide), sw_n _ _ (by decide)]
      · rw [e_86, sg_k _ _ _ (by decide), e_79, sg_s]; rfl
      · rw [e_86, sg_s]; rfl
      · rw [e_86, sg_n _ _ _ d, e_79, sg_n _ _ _ d, e_70, sg_n _ _ _ a, e_65, sg_n _ _ _ a, e_62, sg_n _ _ _ b, e_54, sg_n _ _ _ b, sw_n _ _ b]
    | succ j ih =>
      intro k W hk hW
      have hk8 : k < 8 := by omega
      refine x_iload_n dX9_lays_2 rfl ?_
      refine x_bipush (v := 8) dX9_lays_3 (by decide) ?_
      refine x_icmp_ge (tgt := 47) dX9_lays_5 (by decide) (fun c_5 => (absurd c_5 (show ¬ nI 8 ≤ nI k from nI_ge hk8 (by omega)))) (fun c_5 => ?_)
      refine x_aload_n dX9_lays_8 rfl ?_
      refine s_getr (ci := 9) (k := 4) (N := 20) (C := RX9) (T := TX9) dX9_lays_9 lfX9_19 inX9 rfl (by decide) (rfl) rfl ?_
      refine x_iload_n dX9_lays_12 rfl ?_
      refine x_aload_n dX9_lays_13 rfl ?_
      refine s_getr (ci := 9) (k := 2) (N := 20) (C := RX9) (T := TX9) dX9_lays_14 lfX9_13 inX9 rfl (by decide) (rfl) rfl ?_
      refine x_bipush (v := 27) dX9_lays_17 (by decide) ?_
      refine x_iload_n dX9_lays_19 rfl ?_
      refine x_iadd dX9_lays_20 ?_
      refine s_iald dX9_lays_21 (rfl) (hi := nI_add 27 k) (hj := by omega) (hn := by decide) ?_
      refine s_iast dX9_lays_22 (rfl) (hi := rfl) (hj := by omega) (hn := by decide) ?_
      refine x_aload_n dX9_lays_23 rfl ?_
      refine s_getr (ci := 9) (k := 4) (N := 20) (C := RX9) (T := TX9) dX9_lays_24 lfX9_19 inX9 rfl (by decide) (rfl) rfl ?_
      refine x_bipush (v := 8) dX9_lays_27 (by decide) ?_
      refine x_iload_n dX9_lays_29 rfl ?_
      refine x_iadd dX9_lays_30 ?_
      refine x_aload_n dX9_lays_31 rfl ?_
      refine s_getr (ci := 9) (k := 2) (N := 20) (C := RX9) (T := TX9) dX9_lays_32 lfX9_13 inX9 rfl (by decide) (rfl) rfl ?_
      refine x_bipush (v := 19) dX9_lays_35 (by decide) ?_
      refine x_iload_n dX9_lays_37 rfl ?_
      refine x_iadd dX9_lays_38 ?_
      refine s_iald dX9_lays_39 (rfl) (hi := nI_add 19 k) (hj := by omega) (hn := by decide) ?_
      refine s_iast dX9_lays_40 (rfl) (hi := nI_add 8 k) (hj := by omega) (hn := by decide) ?_
      refine s_iinc dX9_lays_41 rfl (Nat.le_of_ble_eq_true rfl) rfl ?_
      refine x_goto (tgt := 2) dX9_lays_44 (by decide) ?_
      rw [sg_def (sg _ _ _ _) 85, sg_row, sg_def _ 85, sw_sw, sw_sw, sw_s]
      refine ih (k + 1) _ (by omega) (fun i hi => ?_)
      unfold upd
      constructor
      · by_cases e : i = k
        · rw [if_neg (by omega), if_pos e, e]; rfl
        · rw [if_neg (by omega), if_neg e]; exact (hW i (by omega)).1
      · by_cases e : i = k
        · rw [if_pos (by omega), e]; rfl
        · rw [if_neg (by omega), if_neg (by omega)]; exact (hW i (by omega)).2
  refine x_iconst (v := 0) dX9_lays_0 (by decide) ?_
  refine x_istore_n dX9_lays_1 (Nat.le_of_ble_eq_true rfl) rfl ?_
  have h := loop 8 0 (σ 85) (by omega) (fun i hi => by omega)
  rw [sw_id] at h
  exact h
