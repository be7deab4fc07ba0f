/-! ===== Past, Shelf, days to come, the count of bits ===== -/
theorem mo_pa {i : Nat} (h : i < 8) : xMo (23 + 3 * i) := xMo_all _ ((show ∀ i, i < 8 → 23 + 3 * i ∈ xMl by decide) i h)
theorem mo_sh {i : Nat} (h : i < 2) : xMo (50 + 3 * i) := xMo_all _ ((show ∀ i, i < 2 → 50 + 3 * i ∈ xMl by decide) i h)
theorem mo_be {i : Nat} (h : i < 5) : xMo (66 + 3 * i) := xMo_all _ ((show ∀ i, i < 5 → 66 + 3 * i ∈ xMl by decide) i h)
theorem pa_at {i : Nat} (h : i < 8) : ([23, 26, 29, 32, 35, 38, 41, 44] : List Nat)[i]? = some (23 + 3 * i) := (show ∀ i, i < 8 → ([23, 26, 29, 32, 35, 38, 41, 44] : List Nat)[i]? = some (23 + 3 * i) by decide) i h
theorem sh_at {i : Nat} (h : i < 2) : ([50, 53] : List Nat)[i]? = some (50 + 3 * i) := (show ∀ i, i < 2 → ([50, 53] : List Nat)[i]? = some (50 + 3 * i) by decide) i h
theorem be_at {i : Nat} (h : i < 5) : ([66, 69, 72, 75, 78] : List Nat)[i]? = some (66 + 3 * i) := (show ∀ i, i < 5 → ([66, 69, 72, 75, 78] : List Nat)[i]? = some (66 + 3 * i) by decide) i h
set_option maxRecDepth 100000 in
theorem k_paclear (σ : Sg) : Cm 0 YX2_clear [.ref 21] σ (fun v σ' => v = none ∧ σ' = sg (sg σ 21 1 0) 21 2 0) := by
  refine Cm_of (by decide +kernel) (Nat.le_of_ble_eq_true rfl) ?_
  refine x_aload_n dX2_clear_0 rfl ?_
  refine x_iconst (v := 0) dX2_clear_1 (by decide) ?_
  refine s_puti (ci := 2) (k := 1) (N := 3) (C := RX2) (T := TX2) (ty0 := tyX2) dX2_clear_2 lfX2_17 inX2 tyX2_ok nmX2 rfl (by decide) rfl rfl (rfl) rfl ?_
  refine x_aload_n dX2_clear_5 rfl ?_
  refine x_iconst (v := 0) dX2_clear_6 (by decide) ?_
  refine s_puti (ci := 2) (k := 2) (N := 3) (C := RX2) (T := TX2) (ty0 := tyX2) dX2_clear_7 lfX2_21 inX2 tyX2_ok nmX2 rfl (by decide) rfl rfl (rfl) rfl ?_
  exact s_ret dX2_clear_10 rfl (⟨rfl, rfl⟩)
theorem nI_m8 {nx : Nat} (h : nx < 8) (q : (8 : Int32) ≤ nI nx + 1) : nx = 7 := by
  have : ∀ nx, nx < 8 → (8 : Int32) ≤ nI nx + 1 → nx = 7 := by decide +kernel
  exact this nx h q
theorem nI_l8 {nx : Nat} (h : nx < 8) (q : ¬ (8 : Int32) ≤ nI nx + 1) : nx < 7 := by
  have : ∀ nx, nx < 8 → ¬ (8 : Int32) ≤ nI nx + 1 → nx < 7 := by decide +kernel
  exact this nx h q
theorem nI_mi {s : Nat} (h : s ≤ 8) : (if (8 : Int32) < nI s + 1 then (8 : Int32) else nI s + 1) = nI (min (s + 1) 8) := by
  have : ∀ s, s < 9 → (if (8 : Int32) < nI s + 1 then (8 : Int32) else nI s + 1) = nI (min (s + 1) 8) := by decide +kernel
  exact this s (by omega)
set_option maxRecDepth 100000 in
theorem k_remember (σ : Sg) {nx sz : Nat} (h1 : σ 21 1 = nI nx) (h2 : nx < 8) (h3 : σ 21 2 = nI sz) (h4 : sz ≤ 8) : Cm 2 YX2_remember [.ref 21, .ref 15] σ (fun v σ' => v = none ∧ σ' 21 1 = nI ((nx + 1) % 8) ∧ σ' 21 2 = nI (min (sz + 1) 8) ∧ (∀ N, N ≤ 8 → moC N σ' (23 + 3 * nx) = moC N σ 15) ∧ ∀ c, c ≠ 21 → c ≠ 23 + 3 * nx → c ≠ 23 + 3 * nx + 1 → c ≠ 23 + 3 * nx + 2 → σ' c = σ c) := by
  refine Cm_of (by decide +kernel) (Nat.le_of_ble_eq_true rfl) ?_

  refine x_aload_n dX2_remember_0 rfl ?_
  refine s_getr (ci := 2) (k := 0) (N := 3) (C := RX2) (T := TX2) dX2_remember_1 lfX2_11 inX2 rfl (by decide) (rfl) rfl ?_
  refine x_aload_n dX2_remember_4 rfl ?_
  refine s_geti (ci := 2) (k := 1) (N := 3) (C := RX2) (T := TX2) dX2_remember_5 lfX2_17 inX2 rfl (by decide) (rfl) rfl ?_
  refine s_aald dX2_remember_8 (rfl) (b := 23 + 3 * nx) (hi := h1) (hj := h2) (hn := by decide) (pa_at h2) ?_
  refine x_aload_n dX2_remember_9 rfl ?_
  refine s_callV dX2_remember_10 (k_mocopy σ (mo_pa h2) mo_15 (by omega)) rfl w_X1_copyFrom lmX2_25 im_X1_copyFrom se_X1_copyFrom rfl ((mo_pa h2).1) rfl (Nat.le_of_ble_eq_true rfl) rfl (by decide) (fun v_10 σ_10 h_10 => ?_)
  obtain ⟨rfl, hmo, hfr⟩ := h_10
  have g1 : σ_10 21 1 = nI nx := by rw [hfr 21 (by omega) (by omega) (by omega)]; exact h1
  have g3 : σ_10 21 2 = nI sz := by rw [hfr 21 (by omega) (by omega) (by omega)]; exact h3
  refine x_aload_n dX2_remember_13 rfl ?_
  refine x_aload_n dX2_remember_14 rfl ?_
  refine s_geti (ci := 2) (k := 1) (N := 3) (C := RX2) (T := TX2) dX2_remember_15 lfX2_17 inX2 rfl (by decide) (rfl) rfl ?_
  refine x_iconst (v := 1) dX2_remember_18 (by decide) ?_
  refine x_iadd dX2_remember_19 ?_
  refine x_bipush (v := 8) dX2_remember_20 (by decide) ?_
  rw [g1]
  refine x_icmp_ge (tgt := 34) dX2_remember_22 (by decide) (fun c_22 => ?_) (fun c_22 => ?_)
  · refine x_iconst (v := 0) dX2_remember_34 (by decide) ?_
    skip
    refine s_puti (ci := 2) (k := 1) (N := 3) (C := RX2) (T := TX2) (ty0 := tyX2) dX2_remember_35 lfX2_17 inX2 tyX2_ok nmX2 rfl (by decide) rfl rfl (rfl) rfl ?_
    refine xname (fun σ_35 e_35 => ?_)
    refine x_aload_n dX2_remember_38 rfl ?_
    refine x_aload_n dX2_remember_39 rfl ?_
    refine s_geti (ci := 2) (k := 2) (N := 3) (C := RX2) (T := TX2) dX2_remember_40 lfX2_21 inX2 rfl (by decide) (rfl) rfl ?_
    refine x_iconst (v := 1) dX2_remember_43 (by decide) ?_
    refine x_iadd dX2_remember_44 ?_
    refine x_bipush (v := 8) dX2_remember_45 (by decide) ?_
    rw [show σ_35 21 2 = nI sz by rw [e_35, sg_k _ _ _ (by decide)]; exact g3]
    refine s_min dX2_remember_47 tmX2_29 rfl (Nat.le_of_ble_eq_true rfl) (by decide) ?_
    refine s_puti (ci := 2) (k := 2) (N := 3) (C := RX2) (T := TX2) (ty0 := tyX2) dX2_remember_50 lfX2_21 inX2 tyX2_ok nmX2 rfl (by decide) rfl rfl (rfl) rfl ?_
    refine xname (fun σ_50 e_50 => ?_)
    refine s_ret dX2_remember_53 rfl ?_
    refine ⟨rfl, ?_, ?_, fun N hN => ?_, fun c q0 q1 q2 q3 => ?_⟩
    · rw [e_50, sg_k _ _ _ (by decide), e_35, sg_s]
      first | (have := nI_m8 h2 c_22; subst this; rfl) | (have := nI_l8 h2 c_22; rw [g1, nI_1, Nat.mod_eq_of_lt (by omega)])
    · rw [e_50, sg_s]
      exact nI_mi h4
    · rw [← hmo N hN]
      unfold moC
      rw [e_50, sg_n _ _ _ (by omega), sg_n _ _ _ (by omega), sg_n _ _ _ (by omega), e_35, sg_n _ _ _ (by omega), sg_n _ _ _ (by omega), sg_n _ _ _ (by omega)]
    · rw [e_50, sg_n _ _ _ q0, e_35, sg_n _ _ _ q0, hfr c q1 q2 q3]
  · refine x_aload_n dX2_remember_25 rfl ?_
    refine s_geti (ci := 2) (k := 1) (N := 3) (C := RX2) (T := TX2) dX2_remember_26 lfX2_17 inX2 rfl (by decide) (rfl) rfl ?_
    refine x_iconst (v := 1) dX2_remember_29 (by decide) ?_
    refine x_iadd dX2_remember_30 ?_
    refine x_goto (tgt := 35) dX2_remember_31 (by decide) ?_
    skip
    refine s_puti (ci := 2) (k := 1) (N := 3) (C := RX2) (T := TX2) (ty0 := tyX2) dX2_remember_35 lfX2_17 inX2 tyX2_ok nmX2 rfl (by decide) rfl rfl (rfl) rfl ?_
    refine xname (fun σ_35 e_35 => ?_)
    refine x_aload_n dX2_remember_38 rfl ?_
    refine x_aload_n dX2_remember_39 rfl ?_
    refine s_geti (ci := 2) (k := 2) (N := 3) (C := RX2) (T := TX2) dX2_remember_40 lfX2_21 inX2 rfl (by decide) (rfl) rfl ?_
    refine x_iconst (v := 1) dX2_remember_43 (by decide) ?_
    refine x_iadd dX2_remember_44 ?_
    refine x_bipush (v := 8) dX2_remember_45 (by decide) ?_
    rw [show σ_35 21 2 = nI sz by rw [e_35, sg_k _ _ _ (by decide)]; exact g3]
    refine s_min dX2_remember_47 tmX2_29 rfl (Nat.le_of_ble_eq_true rfl) (by decide) ?_
    refine s_puti (ci := 2) (k := 2) (N := 3) (C := RX2) (T := TX2) (ty0 := tyX2) dX2_remember_50 lfX2_21 inX2 tyX2_ok nmX2 rfl (by decide) rfl rfl (rfl) rfl ?_
    refine xname (fun σ_50 e_50 => ?_)
    refine s_ret dX2_remember_53 rfl ?_
    refine ⟨rfl, ?_, ?_, fun N hN => ?_, fun c q0 q1 q2 q3 => ?_⟩
    · rw [e_50, sg_k _ _ _ (by decide), e_35, sg_s]
      first | (have := nI_m8 h2 c_22; subst this; rfl) | (have := nI_l8 h2 c_22; rw [g1, nI_1, Nat.mod_eq_of_lt (by omega)])
    · rw [e_50, sg_s]
      exact nI_mi h4
    · rw [← hmo N hN]
      unfold moC
      rw [e_50, sg_n _ _ _ (by omega), sg_n _ _ _ (by omega), sg_n _ _ _ (by omega), e_35, sg_n _ _ _ (by omega), sg_n _ _ _ (by omega), sg_n _ _ _ (by omega)]
    · rw [e_50, sg_n _ _ _ q0, e_35, sg_n _ _ _ q0, hfr c q1 q2 q3]
set_option maxRecDepth 100000 in
theorem k_recall0 (σ : Sg) (h3 : σ 21 2 = nI 0) : Cm 2 YX2_recall [.ref 21, .ref 15] σ (fun v σ' => v = some (.int 0) ∧ σ' = σ) := by
  refine Cm_of (by decide +kernel) (Nat.le_of_ble_eq_true rfl) ?_
  refine x_aload_n dX2_recall_0 rfl ?_
  refine s_geti (ci := 2) (k := 2) (N := 3) (C := RX2) (T := TX2) dX2_recall_1 lfX2_21 inX2 rfl (by decide) (rfl) rfl ?_
  refine x_if_ne (tgt := 9) dX2_recall_4 (by decide) (fun c_4 => (absurd h3 c_4)) (fun c_4 => ?_)
  refine x_iconst (v := 0) dX2_recall_7 (by decide) ?_
  exact s_zret dX2_recall_8 rfl (by first | exact Or.inl rfl | exact Or.inr rfl | assumption) (⟨rfl, rfl⟩)
set_option maxRecDepth 100000 in
theorem k_recall (σ : Sg) {nx sz : Nat} (h1 : σ 21 1 = nI nx) (h2 : nx < 8) (h3 : σ 21 2 = nI (sz + 1)) (h4 : sz < 8) : Cm 2 YX2_recall [.ref 21, .ref 15] σ (fun v σ' => v = some (.int 1) ∧ σ' 21 1 = nI ((nx + 7) % 8) ∧ σ' 21 2 = nI sz ∧ (∀ N, N ≤ 8 → moC N σ' 15 = moC N σ (23 + 3 * ((nx + 7) % 8))) ∧ ∀ c, c ≠ 21 → c ≠ 15 → c ≠ 16 → c ≠ 17 → σ' c = σ c) := by
  refine Cm_of (by decide +kernel) (Nat.le_of_ble_eq_true rfl) ?_
  have hm8 : (nx + 7) % 8 < 8 := Nat.mod_lt _ (by decide)

  refine x_aload_n dX2_recall_0 rfl ?_
  refine s_geti (ci := 2) (k := 2) (N := 3) (C := RX2) (T := TX2) dX2_recall_1 lfX2_21 inX2 rfl (by decide) (rfl) rfl ?_
  refine x_if_ne (tgt := 9) dX2_recall_4 (by decide) (fun c_4 => ?_) (fun c_4 => (absurd (h3.symm.trans c_4) (nI_ne0 (by omega) (by omega))))
  refine x_aload_n dX2_recall_9 rfl ?_
  refine x_aload_n dX2_recall_10 rfl ?_
  refine s_geti (ci := 2) (k := 1) (N := 3) (C := RX2) (T := TX2) dX2_recall_11 lfX2_17 inX2 rfl (by decide) (rfl) rfl ?_
  refine x_if_le (tgt := 26) dX2_recall_14 (by decide) (fun c_14 => ?_) (fun c_14 => ?_)
  · refine x_bipush (v := 7) dX2_recall_26 (by decide) ?_
    refine s_puti (ci := 2) (k := 1) (N := 3) (C := RX2) (T := TX2) (ty0 := tyX2) dX2_recall_28 lfX2_17 inX2 tyX2_ok nmX2 rfl (by decide) rfl rfl (rfl) rfl ?_
    refine xname (fun σ_28 e_28 => ?_)
    refine x_aload_n dX2_recall_31 rfl ?_
    refine x_dup dX2_recall_32 rfl ?_
    refine s_geti (ci := 2) (k := 2) (N := 3) (C := RX2) (T := TX2) dX2_recall_33 lfX2_21 inX2 rfl (by decide) (rfl) rfl ?_
    refine x_iconst (v := 1) dX2_recall_36 (by decide) ?_
    refine x_isub dX2_recall_37 ?_
    refine s_puti (ci := 2) (k := 2) (N := 3) (C := RX2) (T := TX2) (ty0 := tyX2) dX2_recall_38 lfX2_21 inX2 tyX2_ok nmX2 rfl (by decide) rfl rfl (rfl) rfl ?_
    refine xname (fun σ_38 e_38 => ?_)
    have g1 : σ_38 21 1 = nI ((nx + 7) % 8) := by
      rw [e_38, sg_k _ _ _ (by decide), e_28, sg_s]
      first
        | (have : nx = 0 := by
            rw [h1] at c_14
            rcases Nat.eq_zero_or_pos nx with q | q
            · exact q
            · exact absurd c_14 (nI_nle q (by omega))
           subst this; rfl)
        | (have : 0 < nx := by
            rcases Nat.eq_zero_or_pos nx with q | q
            · rw [h1, q] at c_14; exact absurd (by decide) c_14
            · exact q
           rw [h1]
           obtain ⟨y, rfl⟩ : ∃ y, nx = y + 1 := ⟨nx - 1, by omega⟩
           rw [nI_pred, show (y + 1 + 7) % 8 = y by omega])
    refine x_aload_n dX2_recall_41 rfl ?_
    refine x_aload_n dX2_recall_42 rfl ?_
    refine s_getr (ci := 2) (k := 0) (N := 3) (C := RX2) (T := TX2) dX2_recall_43 lfX2_11 inX2 rfl (by decide) (rfl) rfl ?_
    refine x_aload_n dX2_recall_46 rfl ?_
    refine s_geti (ci := 2) (k := 1) (N := 3) (C := RX2) (T := TX2) dX2_recall_47 lfX2_17 inX2 rfl (by decide) (rfl) rfl ?_
    refine s_aald dX2_recall_50 (rfl) (b := 23 + 3 * ((nx + 7) % 8)) (hi := g1) (hj := hm8) (hn := by decide) (pa_at hm8) ?_
    refine s_callV dX2_recall_51 (k_mocopy σ_38 mo_15 (mo_pa hm8) (by omega)) rfl w_X1_copyFrom lmX2_25 im_X1_copyFrom se_X1_copyFrom rfl (mo_15.1) rfl (Nat.le_of_ble_eq_true rfl) rfl (by decide) (fun v_51 σ_51 h_51 => ?_)
    obtain ⟨rfl, hmo, hfr⟩ := h_51
    refine x_iconst (v := 1) dX2_recall_54 (by decide) ?_
    refine s_zret dX2_recall_55 rfl (by first | exact Or.inl rfl | exact Or.inr rfl | assumption) ?_
    refine ⟨rfl, ?_, ?_, fun N hN => ?_, fun c q0 q1 q2 q3 => ?_⟩
    · rw [hfr 21 (by decide) (by decide) (by decide)]; exact g1
    · rw [hfr 21 (by decide) (by decide) (by decide), e_38, sg_s, e_28, sg_k _ _ _ (by decide), h3]; exact nI_pred sz
    · rw [hmo N hN]
      unfold moC
      rw [e_38, sg_n _ _ _ (by omega), sg_n _ _ _ (by omega), sg_n _ _ _ (by omega), e_28, sg_n _ _ _ (by omega), sg_n _ _ _ (by omega), sg_n _ _ _ (by omega)]
    · rw [hfr c q1 q2 q3, e_38, sg_n _ _ _ q0, e_28, sg_n _ _ _ q0]
  · refine x_aload_n dX2_recall_17 rfl ?_
    refine s_geti (ci := 2) (k := 1) (N := 3) (C := RX2) (T := TX2) dX2_recall_18 lfX2_17 inX2 rfl (by decide) (rfl) rfl ?_
    refine x_iconst (v := 1) dX2_recall_21 (by decide) ?_
    refine x_isub dX2_recall_22 ?_
    refine x_goto (tgt := 28) dX2_recall_23 (by decide) ?_
    refine s_puti (ci := 2) (k := 1) (N := 3) (C := RX2) (T := TX2) (ty0 := tyX2) dX2_recall_28 lfX2_17 inX2 tyX2_ok nmX2 rfl (by decide) rfl rfl (rfl) rfl ?_
    refine xname (fun σ_28 e_28 => ?_)
    refine x_aload_n dX2_recall_31 rfl ?_
    refine x_dup dX2_recall_32 rfl ?_
    refine s_geti (ci := 2) (k := 2) (N := 3) (C := RX2) (T := TX2) dX2_recall_33 lfX2_21 inX2 rfl (by decide) (rfl) rfl ?_
    refine x_iconst (v := 1) dX2_recall_36 (by decide) ?_
    refine x_isub dX2_recall_37 ?_
    refine s_puti (ci := 2) (k := 2) (N := 3) (C := RX2) (T := TX2) (ty0 := tyX2) dX2_recall_38 lfX2_21 inX2 tyX2_ok nmX2 rfl (by decide) rfl rfl (rfl) rfl ?_
    refine xname (fun σ_38 e_38 => ?_)
    have g1 : σ_38 21 1 = nI ((nx + 7) % 8) := by
      rw [e_38, sg_k _ _ _ (by decide), e_28, sg_s]
      first
        | (have : nx = 0 := by
            rw [h1] at c_14
            rcases Nat.eq_zero_or_pos nx with q | q
            · exact q
            · exact absurd c_14 (nI_nle q (by omega))
           subst this; rfl)
        | (have : 0 < nx := by
            rcases Nat.eq_zero_or_pos nx with q | q
            · rw [h1, q] at c_14; exact absurd (by decide) c_14
            · exact q
           rw [h1]
           obtain ⟨y, rfl⟩ : ∃ y, nx = y + 1 := ⟨nx - 1, by omega⟩
           rw [nI_pred, show (y + 1 + 7) % 8 = y by omega])
    refine x_aload_n dX2_recall_41 rfl ?_
    refine x_aload_n dX2_recall_42 rfl ?_
    refine s_getr (ci := 2) (k := 0) (N := 3) (C := RX2) (T := TX2) dX2_recall_43 lfX2_11 inX2 rfl (by decide) (rfl) rfl ?_
    refine x_aload_n dX2_recall_46 rfl ?_
    refine s_geti (ci := 2) (k := 1) (N := 3) (C := RX2) (T := TX2) dX2_recall_47 lfX2_17 inX2 rfl (by decide) (rfl) rfl ?_
    refine s_aald dX2_recall_50 (rfl) (b := 23 + 3 * ((nx + 7) % 8)) (hi := g1) (hj := hm8) (hn := by decide) (pa_at hm8) ?_
    refine s_callV dX2_recall_51 (k_mocopy σ_38 mo_15 (mo_pa hm8) (by omega)) rfl w_X1_copyFrom lmX2_25 im_X1_copyFrom se_X1_copyFrom rfl (mo_15.1) rfl (Nat.le_of_ble_eq_true rfl) rfl (by decide) (fun v_51 σ_51 h_51 => ?_)
    obtain ⟨rfl, hmo, hfr⟩ := h_51
    refine x_iconst (v := 1) dX2_recall_54 (by decide) ?_
    refine s_zret dX2_recall_55 rfl (by first | exact Or.inl rfl | exact Or.inr rfl | assumption) ?_
    refine ⟨rfl, ?_, ?_, fun N hN => ?_, fun c q0 q1 q2 q3 => ?_⟩
    · rw [hfr 21 (by decide) (by decide) (by decide)]; exact g1
    · rw [hfr 21 (by decide) (by decide) (by decide), e_38, sg_s, e_28, sg_k _ _ _ (by decide), h3]; exact nI_pred sz
    · rw [hmo N hN]
      unfold moC
      rw [e_38, sg_n _ _ _ (by omega), sg_n _ _ _ (by omega), sg_n _ _ _ (by omega), e_28, sg_n _ _ _ (by omega), sg_n _ _ _ (by omega), sg_n _ _ _ (by omega)]
    · rw [hfr c q1 q2 q3, e_38, sg_n _ _ _ q0, e_28, sg_n _ _ _ q0]

set_option maxRecDepth 100000 in
theorem l_shclear (σ : Sg) : Cm 0 YX5_clear [.ref 47] σ (fun v σ' => v = none ∧ (∀ k, k < 2 → σ' 49 k = 0) ∧ ∀ c, c ≠ 49 → σ' c = σ c) := by
  have go : ∀ (j k : Nat) (τ : Sg), k + j = 2 → (∀ i, i < k → τ 49 i = 0) → (∀ c, c ≠ 49 → τ c = σ c) → Ex (YX5_clear, 0, xB0, none) 2 [.ref 47, .int (nI k)] [] (xMs τ) (xQ (fun v σ' => v = none ∧ (∀ k, k < 2 → σ' 49 k = 0) ∧ ∀ c, c ≠ 49 → σ' c = σ c)) := by
    intro j
    induction j with
    | zero =>
      intro k τ hk h1 h2
      have hk : k = 2 := by omega
      subst hk
      refine x_iload_n dX5_clear_2 rfl ?_
      refine x_iconst (v := 2) dX5_clear_3 (by decide) ?_
      refine x_icmp_ge (tgt := 20) dX5_clear_4 (by decide) (fun c_4 => ?_) (fun c_4 => (absurd (by decide) c_4))
      exact s_ret dX5_clear_20 rfl (⟨rfl, h1, h2⟩)
    | succ j ih =>
      intro k τ hk h1 h2
      have hk2 : k < 2 := by omega
      refine x_iload_n dX5_clear_2 rfl ?_
      refine x_iconst (v := 2) dX5_clear_3 (by decide) ?_
      refine x_icmp_ge (tgt := 20) dX5_clear_4 (by decide) (fun c_4 => (absurd c_4 (show ¬ nI 2 ≤ nI k from nI_ge hk2 (by decide)))) (fun c_4 => ?_)
      refine x_aload_n dX5_clear_7 rfl ?_
      refine s_getr (ci := 5) (k := 1) (N := 2) (C := RX5) (T := TX5) dX5_clear_8 lfX5_17 inX5 rfl (by decide) (rfl) rfl ?_
      refine x_iload_n dX5_clear_11 rfl ?_
      refine x_iconst (v := 0) dX5_clear_12 (by decide) ?_
      refine s_zast dX5_clear_13 (rfl) (hi := rfl) (hj := by omega) (hn := by decide) ?_
      refine s_iinc dX5_clear_14 rfl (by decide) rfl ?_
      refine x_goto (tgt := 2) dX5_clear_17 (by decide) ?_
      refine ih (k + 1) _ (by omega) (fun i hi => ?_) (fun c hc => by rw [sg_n _ _ _ hc]; exact h2 c hc)
      by_cases e : i = k
      · rw [e, sg_s]; rfl
      · rw [sg_k _ _ _ e]; exact h1 i (by omega)
  refine Cm_of (by decide +kernel) (Nat.le_of_ble_eq_true rfl) ?_
  refine x_iconst (v := 0) dX5_clear_0 (by decide) ?_
  refine x_istore_n dX5_clear_1 (by decide) rfl ?_
  exact go 2 0 σ rfl (fun i hi => by omega) (fun c _ => rfl)
set_option maxRecDepth 100000 in
theorem k_isShelf (σ : Sg) (k : Int32) : Cm 0 YX8_isShelf [.int k] σ (fun v σ' => v = some (.int (bI (inb 2 k))) ∧ σ' = σ) := by
  refine Cm_of (by decide +kernel) (Nat.le_of_ble_eq_true rfl) ?_
  have key : ∀ (x : Int32) (b : Bool), b = inb 2 k → x = bI b → some (Value.int x) = some (.int (bI (inb 2 k))) ∧ σ = σ := fun x b h h2 => ⟨by rw [h2, h], rfl⟩
  refine x_iload_n dX8_isShelf_0 rfl ?_
  refine x_if_lt (tgt := 13) dX8_isShelf_1 (by decide) (fun c_1 => ?_) (fun c_1 => ?_)
  · refine x_iconst (v := 0) dX8_isShelf_13 (by decide) ?_
    exact s_zret dX8_isShelf_14 rfl (by first | exact Or.inl rfl | exact Or.inr rfl | assumption) (by first | exact key _ true (inb_ok c_1 c_6).symm rfl | exact key _ false (inb_lt c_1).symm rfl | exact key _ false (inb_ge c_6).symm rfl)
  · refine x_iload_n dX8_isShelf_4 rfl ?_
    refine x_iconst (v := 2) dX8_isShelf_5 (by decide) ?_
    refine x_icmp_ge (tgt := 13) dX8_isShelf_6 (by decide) (fun c_6 => ?_) (fun c_6 => ?_)
    · refine x_iconst (v := 0) dX8_isShelf_13 (by decide) ?_
      exact s_zret dX8_isShelf_14 rfl (by first | exact Or.inl rfl | exact Or.inr rfl | assumption) (by first | exact key _ true (inb_ok c_1 c_6).symm rfl | exact key _ false (inb_lt c_1).symm rfl | exact key _ false (inb_ge c_6).symm rfl)
    · refine x_iconst (v := 1) dX8_isShelf_9 (by decide) ?_
      refine x_goto (tgt := 14) dX8_isShelf_10 (by decide) ?_
      exact s_zret dX8_isShelf_14 rfl (by first | exact Or.inl rfl | exact Or.inr rfl | assumption) (by first | exact key _ true (inb_ok c_1 c_6).symm rfl | exact key _ false (inb_lt c_1).symm rfl | exact key _ false (inb_ge c_6).symm rfl)
set_option maxRecDepth 100000 in
theorem k_shput (σ : Sg) {k : Nat} (hk : k < 2) : Cm 2 YX5_put [.ref 47, .int (nI k), .ref 15] σ (fun v σ' => v = none ∧ σ' 49 = upd (σ 49) k 1 ∧ (∀ N, N ≤ 8 → moC N σ' (50 + 3 * k) = moC N σ 15) ∧ ∀ c, c ≠ 49 → c ≠ 50 + 3 * k → c ≠ 50 + 3 * k + 1 → c ≠ 50 + 3 * k + 2 → σ' c = σ c) := by
  refine Cm_of (by decide +kernel) (Nat.le_of_ble_eq_true rfl) ?_
  refine x_iload_n dX5_put_0 rfl ?_
  refine s_callS dX5_put_1 (k_isShelf σ (nI k)) rfl w_X8_isShelf lmX5_22 st_X8_isShelf rfl (Nat.le_of_ble_eq_true rfl) rfl (by decide) (fun v_1 σ_1 h_1 => ?_)
  obtain ⟨rfl, z_1⟩ := h_1
  have z_1 := z_1.symm
  subst z_1
  refine x_if_eq (tgt := 24) dX5_put_4 (by decide) (fun c_4 => (absurd c_4 (by rw [inb_nI hk (by omega)]; decide))) (fun c_4 => ?_)
  refine x_aload_n dX5_put_7 rfl ?_
  refine s_getr (ci := 5) (k := 0) (N := 2) (C := RX5) (T := TX5) dX5_put_8 lfX5_11 inX5 rfl (by decide) (rfl) rfl ?_
  refine x_iload_n dX5_put_11 rfl ?_
  refine s_aald dX5_put_12 (rfl) (b := 50 + 3 * k) (hi := rfl) (hj := hk) (hn := by decide) (sh_at hk) ?_
  refine x_aload_n dX5_put_13 rfl ?_
  refine s_callV dX5_put_14 (k_mocopy σ (mo_sh hk) mo_15 (by omega)) rfl w_X1_copyFrom lmX5_26 im_X1_copyFrom se_X1_copyFrom rfl ((mo_sh hk).1) rfl (Nat.le_of_ble_eq_true rfl) rfl (by decide) (fun v_14 σ_14 h_14 => ?_)
  obtain ⟨rfl, hmo, hfr⟩ := h_14
  refine x_aload_n dX5_put_17 rfl ?_
  refine s_getr (ci := 5) (k := 1) (N := 2) (C := RX5) (T := TX5) dX5_put_18 lfX5_17 inX5 rfl (by decide) (rfl) rfl ?_
  refine x_iload_n dX5_put_21 rfl ?_
  refine x_iconst (v := 1) dX5_put_22 (by decide) ?_
  refine s_zast dX5_put_23 (rfl) (hi := rfl) (hj := by omega) (hn := by decide) ?_
  refine xname (fun σ_23 e_23 => ?_)
  refine s_ret dX5_put_24 rfl ?_
  refine ⟨rfl, ?_, fun N hN => ?_, fun c q0 q1 q2 q3 => ?_⟩
  · rw [e_23, sg_row, hfr 49 (by omega) (by omega) (by omega)]; rfl
  · rw [← hmo N hN]
    unfold moC
    rw [e_23, sg_n _ _ _ (by omega), sg_n _ _ _ (by omega), sg_n _ _ _ (by omega)]
  · rw [e_23, sg_n _ _ _ q0, hfr c q1 q2 q3]
set_option maxRecDepth 100000 in
theorem k_shtake0 (σ : Sg) {k : Nat} (hk : k < 2) (hu : σ 49 k = 0) : Cm 2 YX5_take [.ref 47, .int (nI k), .ref 15] σ (fun v σ' => v = some (.int 0) ∧ σ' = σ) := by
  refine Cm_of (by decide +kernel) (Nat.le_of_ble_eq_true rfl) ?_
  refine x_iload_n dX5_take_0 rfl ?_
  refine s_callS dX5_take_1 (k_isShelf σ (nI k)) rfl w_X8_isShelf lmX5_22 st_X8_isShelf rfl (Nat.le_of_ble_eq_true rfl) rfl (by decide) (fun v_1 σ_1 h_1 => ?_)
  obtain ⟨rfl, z_1⟩ := h_1
  have z_1 := z_1.symm
  subst z_1
  refine x_if_eq (tgt := 16) dX5_take_4 (by decide) (fun c_4 => (absurd c_4 (by rw [inb_nI hk (by omega)]; decide))) (fun c_4 => ?_)
  refine x_aload_n dX5_take_7 rfl ?_
  refine s_getr (ci := 5) (k := 1) (N := 2) (C := RX5) (T := TX5) dX5_take_8 lfX5_17 inX5 rfl (by decide) (rfl) rfl ?_
  refine x_iload_n dX5_take_11 rfl ?_
  refine s_zald dX5_take_12 (rfl) (hi := rfl) (hj := by omega) (hn := by decide) ?_
  refine x_if_ne (tgt := 18) dX5_take_13 (by decide) (fun c_13 => (absurd hu c_13)) (fun c_13 => ?_)
  refine x_iconst (v := 0) dX5_take_16 (by decide) ?_
  exact s_zret dX5_take_17 rfl (by first | exact Or.inl rfl | exact Or.inr rfl | assumption) (⟨rfl, rfl⟩)
set_option maxRecDepth 100000 in
theorem k_shtake (σ : Sg) {k : Nat} (hk : k < 2) (hu : ¬ σ 49 k = 0) : Cm 2 YX5_take [.ref 47, .int (nI k), .ref 15] σ (fun v σ' => v = some (.int 1) ∧ (∀ N, N ≤ 8 → moC N σ' 15 = moC N σ (50 + 3 * k)) ∧ ∀ c, c ≠ 15 → c ≠ 16 → c ≠ 17 → σ' c = σ c) := by
  refine Cm_of (by decide +kernel) (Nat.le_of_ble_eq_true rfl) ?_
  refine x_iload_n dX5_take_0 rfl ?_
  refine s_callS dX5_take_1 (k_isShelf σ (nI k)) rfl w_X8_isShelf lmX5_22 st_X8_isShelf rfl (Nat.le_of_ble_eq_true rfl) rfl (by decide) (fun v_1 σ_1 h_1 => ?_)
  obtain ⟨rfl, z_1⟩ := h_1
  have z_1 := z_1.symm
  subst z_1
  refine x_if_eq (tgt := 16) dX5_take_4 (by decide) (fun c_4 => (absurd c_4 (by rw [inb_nI hk (by omega)]; decide))) (fun c_4 => ?_)
  refine x_aload_n dX5_take_7 rfl ?_
  refine s_getr (ci := 5) (k := 1) (N := 2) (C := RX5) (T := TX5) dX5_take_8 lfX5_17 inX5 rfl (by decide) (rfl) rfl ?_
  refine x_iload_n dX5_take_11 rfl ?_
  refine s_zald dX5_take_12 (rfl) (hi := rfl) (hj := by omega) (hn := by decide) ?_
  refine x_if_ne (tgt := 18) dX5_take_13 (by decide) (fun c_13 => ?_) (fun c_13 => (absurd c_13 hu))
  refine x_aload_n dX5_take_18 rfl ?_
  refine x_aload_n dX5_take_19 rfl ?_
  refine s_getr (ci := 5) (k := 0) (N := 2) (C := RX5) (T := TX5) dX5_take_20 lfX5_11 inX5 rfl (by decide) (rfl) rfl ?_
  refine x_iload_n dX5_take_23 rfl ?_
  refine s_aald dX5_take_24 (rfl) (b := 50 + 3 * k) (hi := rfl) (hj := hk) (hn := by decide) (sh_at hk) ?_
  refine s_callV dX5_take_25 (k_mocopy σ mo_15 (mo_sh hk) (by omega)) rfl w_X1_copyFrom lmX5_26 im_X1_copyFrom se_X1_copyFrom rfl (mo_15.1) rfl (Nat.le_of_ble_eq_true rfl) rfl (by decide) (fun v_25 σ_25 h_25 => ?_)
  obtain ⟨rfl, hmo, hfr⟩ := h_25
  refine x_iconst (v := 1) dX5_take_28 (by decide) ?_
  exact s_zret dX5_take_29 rfl (by first | exact Or.inl rfl | exact Or.inr rfl | assumption) (⟨rfl, hmo, hfr⟩)
/-- n days behind -/
def itF (p : PL) (o : MO) : Nat → MO
  | 0 => o
  | k + 1 => daF p (itF p o k)
set_option maxRecDepth 100000 in
theorem l_trial {N n : Nat} (hn8 : n ≤ 8) (σ0 : Sg) (h0n : σ0 3 5 = nI n) (hN : N ≤ 1000) : ∀ (j k : Nat) (τ : Sg), k + j = N → (moC n τ 18 = itF (plC n σ0) (moC n σ0 15) k ∧ ∀ c, c ≠ 18 → c ≠ 19 → c ≠ 20 → c ≠ 59 → c ≠ 60 → c ≠ 61 → τ c = σ0 c) →
    Ex (YX8_passTrialDays, 5, xB0, none) 13 [.ref 0, .int (nI N), .int (nI k)] [] (xMs τ) (xQ (fun v σ' => v = none ∧ moC n σ' 18 = itF (plC n σ0) (moC n σ0 15) N ∧ ∀ c, c ≠ 18 → c ≠ 19 → c ≠ 20 → c ≠ 59 → c ≠ 60 → c ≠ 61 → σ' c = σ0 c)) := by
  intro j
  induction j with
  | zero =>
    intro k τ hk hI
    have hk : k = N := by omega
    subst hk
    refine x_iload_n dX8_passTrialDays_13 rfl ?_
    refine x_iload_n dX8_passTrialDays_14 rfl ?_
    refine x_icmp_ge (tgt := 33) dX8_passTrialDays_15 (by decide) (fun c_15 => ?_) (fun c_15 => (absurd (Int32.le_refl _) c_15))
    exact s_ret dX8_passTrialDays_33 rfl (⟨rfl, hI⟩)
  | succ j ih =>
    intro k τ hk hI
    have hkn : k < N := by omega
    have hp : plC n τ = plC n σ0 := by
      unfold plC
      rw [hI.2 3 (by decide) (by decide) (by decide) (by decide) (by decide) (by decide), hI.2 4 (by decide) (by decide) (by decide) (by decide) (by decide) (by decide), hI.2 5 (by decide) (by decide) (by decide) (by decide) (by decide) (by decide), hI.2 6 (by decide) (by decide) (by decide) (by decide) (by decide) (by decide), hI.2 7 (by decide) (by decide) (by decide) (by decide) (by decide) (by decide), hI.2 8 (by decide) (by decide) (by decide) (by decide) (by decide) (by decide)]
    refine x_iload_n dX8_passTrialDays_13 rfl ?_
    refine x_iload_n dX8_passTrialDays_14 rfl ?_
    refine x_icmp_ge (tgt := 33) dX8_passTrialDays_15 (by decide) (fun c_15 => (absurd c_15 (nI_ge hkn (by omega)))) (fun c_15 => ?_)
    refine x_aload_n dX8_passTrialDays_18 rfl ?_
    refine x_aload_n dX8_passTrialDays_19 rfl ?_
    refine s_getr (ci := 8) (k := 4) (N := 10) (C := RX8) (T := TX8) dX8_passTrialDays_20 lfX8_33 inX8 rfl (by decide) (rfl) rfl ?_
    refine s_callV dX8_passTrialDays_23 (k_passDay τ mo_18 (n := n) (by rw [hI.2 3 (by decide) (by decide) (by decide) (by decide) (by decide) (by decide)]; exact h0n) hn8) rfl w_X8_passDay lmX8_150 im_X8_passDay se_X8_passDay rfl (rfl) rfl (Nat.le_of_ble_eq_true rfl) rfl (by decide) (fun v_23 σ_23 h_23 => ?_)
    obtain ⟨rfl, hmo, hfr⟩ := h_23
    refine x_pop dX8_passTrialDays_26 rfl ?_
    refine s_iinc dX8_passTrialDays_27 rfl (by decide) rfl ?_
    refine x_goto (tgt := 13) dX8_passTrialDays_30 (by decide) ?_
    exact ih (k + 1) _ (by omega) ⟨by rw [hmo, hp, hI.1]; rfl, fun c a1 a2 a3 a4 a5 a6 => by rw [hfr c a1 a2 a3 a4 a5 a6, hI.2 c a1 a2 a3 a4 a5 a6]⟩
set_option maxRecDepth 100000 in
theorem k_passTrialDays (σ : Sg) {n N : Nat} (hn : σ 3 5 = nI n) (hn8 : n ≤ 8) (hN : N ≤ 1000) : Cm 5 YX8_passTrialDays [.ref 0, .int (nI N)] σ (fun v σ' => v = none ∧ moC n σ' 18 = itF (plC n σ) (moC n σ 15) N ∧ ∀ c, c ≠ 18 → c ≠ 19 → c ≠ 20 → c ≠ 59 → c ≠ 60 → c ≠ 61 → σ' c = σ c) := by
  refine Cm_of (by decide +kernel) (Nat.le_of_ble_eq_true rfl) ?_
  refine x_aload_n dX8_passTrialDays_0 rfl ?_
  refine s_getr (ci := 8) (k := 4) (N := 10) (C := RX8) (T := TX8) dX8_passTrialDays_1 lfX8_33 inX8 rfl (by decide) (rfl) rfl ?_
  refine x_aload_n dX8_passTrialDays_4 rfl ?_
  refine s_getr (ci := 8) (k := 3) (N := 10) (C := RX8) (T := TX8) dX8_passTrialDays_5 lfX8_29 inX8 rfl (by decide) (rfl) rfl ?_
  refine s_callV dX8_passTrialDays_8 (k_mocopy σ mo_18 mo_15 (by decide)) rfl w_X1_copyFrom lmX8_198 im_X1_copyFrom se_X1_copyFrom rfl (mo_18.1) rfl (Nat.le_of_ble_eq_true rfl) rfl (by decide) (fun v_8 σ_8 h_8 => ?_)
  obtain ⟨rfl, hmo, hfr⟩ := h_8
  refine x_iconst (v := 0) dX8_passTrialDays_11 (by decide) ?_
  refine x_istore_n dX8_passTrialDays_12 (by decide) rfl ?_
  exact l_trial hn8 σ hn hN N 0 _ (by omega) ⟨hmo n hn8, fun c a1 a2 a3 _ _ _ => hfr c a1 a2 a3⟩
