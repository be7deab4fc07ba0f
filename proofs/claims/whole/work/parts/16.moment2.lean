/-! ===== Plan, Sightings, Moment: contracts, 2 ===== -/
set_option maxRecDepth 100000 in
/-- a street more in the draft -/
theorem k_pladd (σ : Sg) {n : Nat} (hn : σ 9 5 = nI n) (hn8 : n < 8) (kd nd vo wa : Int32) : Cm 0 YX3_add [.ref 9, .int kd, .int nd, .int vo, .int wa] σ (fun v σ' => v = none ∧ σ' 9 5 = nI (n + 1) ∧ σ' 9 6 = σ 9 6 ∧ σ' 9 7 = σ 9 7 ∧ σ' 10 = upd (σ 10) n kd ∧ σ' 11 = upd (σ 11) n nd ∧ σ' 12 = upd (σ 12) n vo ∧ σ' 13 = upd (σ 13) n wa ∧ σ' 14 = upd (σ 14) n (-1) ∧ ∀ c, ¬ (9 ≤ c ∧ c ≤ 14) → σ' c = σ c) := by
  refine Cm_of (by decide +kernel) (Nat.le_of_ble_eq_true rfl) ?_

  refine x_aload_n dX3_add_0 rfl ?_
  refine s_geti (ci := 3) (k := 5) (N := 8) (C := RX3) (T := TX3) dX3_add_1 lfX3_27 inX3 rfl (by decide) (rfl) rfl ?_
  refine x_bipush (v := 8) dX3_add_4 (by decide) ?_
  refine x_icmp_lt (tgt := 10) dX3_add_6 (by decide) (fun c_6 => ?_) (fun c_6 => (absurd (by rw [hn]; exact (show nI n < nI 8 from nI_lt hn8 (by decide))) c_6))
  refine x_aload_n dX3_add_10 rfl ?_
  refine s_getr (ci := 3) (k := 0) (N := 8) (C := RX3) (T := TX3) dX3_add_11 lfX3_9 inX3 rfl (by decide) (rfl) rfl ?_
  refine x_aload_n dX3_add_14 rfl ?_
  refine s_geti (ci := 3) (k := 5) (N := 8) (C := RX3) (T := TX3) dX3_add_15 lfX3_27 inX3 rfl (by decide) (rfl) rfl ?_
  refine x_iload_n dX3_add_18 rfl ?_
  refine s_iast dX3_add_19 (rfl) (hi := hn) (hj := by omega) (hn := by decide) ?_
  refine xname (fun σ_19 e_19 => ?_)
  refine x_aload_n dX3_add_20 rfl ?_
  refine s_getr (ci := 3) (k := 1) (N := 8) (C := RX3) (T := TX3) dX3_add_21 lfX3_15 inX3 rfl (by decide) (rfl) rfl ?_
  refine x_aload_n dX3_add_24 rfl ?_
  refine s_geti (ci := 3) (k := 5) (N := 8) (C := RX3) (T := TX3) dX3_add_25 lfX3_27 inX3 rfl (by decide) (rfl) rfl ?_
  refine x_iload_n dX3_add_28 rfl ?_
  refine s_iast dX3_add_29 (rfl) (hi := by simp [e_19, sg_at]; exact hn) (hj := by omega) (hn := by decide) ?_
  refine xname (fun σ_29 e_29 => ?_)
  refine x_aload_n dX3_add_30 rfl ?_
  refine s_getr (ci := 3) (k := 2) (N := 8) (C := RX3) (T := TX3) dX3_add_31 lfX3_18 inX3 rfl (by decide) (rfl) rfl ?_
  refine x_aload_n dX3_add_34 rfl ?_
  refine s_geti (ci := 3) (k := 5) (N := 8) (C := RX3) (T := TX3) dX3_add_35 lfX3_27 inX3 rfl (by decide) (rfl) rfl ?_
  refine x_iload_n dX3_add_38 rfl ?_
  refine s_iast dX3_add_39 (rfl) (hi := by simp [e_29, e_19, sg_at]; exact hn) (hj := by omega) (hn := by decide) ?_
  refine xname (fun σ_39 e_39 => ?_)
  refine x_aload_n dX3_add_40 rfl ?_
  refine s_getr (ci := 3) (k := 3) (N := 8) (C := RX3) (T := TX3) dX3_add_41 lfX3_21 inX3 rfl (by decide) (rfl) rfl ?_
  refine x_aload_n dX3_add_44 rfl ?_
  refine s_geti (ci := 3) (k := 5) (N := 8) (C := RX3) (T := TX3) dX3_add_45 lfX3_27 inX3 rfl (by decide) (rfl) rfl ?_
  refine x_iload dX3_add_48 rfl ?_
  refine s_iast dX3_add_50 (rfl) (hi := by simp [e_39, e_29, e_19, sg_at]; exact hn) (hj := by omega) (hn := by decide) ?_
  refine xname (fun σ_50 e_50 => ?_)
  refine x_aload_n dX3_add_51 rfl ?_
  refine s_getr (ci := 3) (k := 4) (N := 8) (C := RX3) (T := TX3) dX3_add_52 lfX3_24 inX3 rfl (by decide) (rfl) rfl ?_
  refine x_aload_n dX3_add_55 rfl ?_
  refine s_geti (ci := 3) (k := 5) (N := 8) (C := RX3) (T := TX3) dX3_add_56 lfX3_27 inX3 rfl (by decide) (rfl) rfl ?_
  refine x_iconst (v := -1) dX3_add_59 (by decide) ?_
  refine s_iast dX3_add_60 (rfl) (hi := by simp [e_50, e_39, e_29, e_19, sg_at]; exact hn) (hj := by omega) (hn := by decide) ?_
  refine xname (fun σ_60 e_60 => ?_)
  refine x_aload_n dX3_add_61 rfl ?_
  refine x_dup dX3_add_62 rfl ?_
  refine s_geti (ci := 3) (k := 5) (N := 8) (C := RX3) (T := TX3) dX3_add_63 lfX3_27 inX3 rfl (by decide) (rfl) rfl ?_
  refine x_iconst (v := 1) dX3_add_66 (by decide) ?_
  refine x_iadd dX3_add_67 ?_
  refine s_puti (ci := 3) (k := 5) (N := 8) (C := RX3) (T := TX3) (ty0 := tyX3) dX3_add_68 lfX3_27 inX3 tyX3_ok nmX3 rfl (by decide) rfl rfl (rfl) rfl ?_
  refine xname (fun σ_68 e_68 => ?_)
  refine s_ret dX3_add_71 rfl ?_
  refine ⟨rfl, ?_, ?_, ?_, ?_, ?_, ?_, ?_, ?_, fun c hc => ?_⟩
  all_goals first | (simp [e_68, e_60, e_50, e_39, e_29, e_19, sw_at, sg_at, sg_rw, hn]; done) | (simp [e_68, e_60, e_50, e_39, e_29, e_19, sw_at, sg_at, sg_rw, hn]; exact nI_1 n) | skip
  have hq : ∀ i, 9 ≤ i → i ≤ 14 → c ≠ i := by omega
  simp [e_68, e_60, e_50, e_39, e_29, e_19, sw_at, sg_at, sg_rw, hq]
set_option maxRecDepth 100000 in
theorem k_pltilt (σ : Sg) {n a b : Nat} (hn : σ 9 5 = nI n) (hn8 : n ≤ 8) (ha : a < n) (hb : b < n) : Cm 1 YX3_tilt [.ref 9, .int (nI a), .int (nI b)] σ (fun v σ' => v = none ∧ σ' = sg σ 14 a (nI b)) := by
  refine Cm_of (by decide +kernel) (Nat.le_of_ble_eq_true rfl) ?_
  refine x_aload_n dX3_tilt_0 rfl ?_
  refine x_iload_n dX3_tilt_1 rfl ?_
  refine s_callV dX3_tilt_2 (k_has σ pl_9 hn hn8 (nI a)) rfl w_X3_has lmX3_43 im_X3_has se_X3_has rfl (rfl) rfl (by decide) rfl (by decide) (fun v_2 σ_2 h_2 => ?_)
  obtain ⟨rfl, rfl⟩ := h_2
  refine x_if_eq (tgt := 23) dX3_tilt_5 (by decide) (fun c_5 => (absurd c_5 (by rw [inb_nI ha (by omega)]; decide))) (fun c_5 => ?_)
  refine x_aload_n dX3_tilt_8 rfl ?_
  refine x_iload_n dX3_tilt_9 rfl ?_
  refine s_callV dX3_tilt_10 (k_has _ pl_9 hn hn8 (nI b)) rfl w_X3_has lmX3_43 im_X3_has se_X3_has rfl (rfl) rfl (by decide) rfl (by decide) (fun v_10 σ_10 h_10 => ?_)
  obtain ⟨rfl, rfl⟩ := h_10
  refine x_if_eq (tgt := 23) dX3_tilt_13 (by decide) (fun c_13 => (absurd c_13 (by rw [inb_nI hb (by omega)]; decide))) (fun c_13 => ?_)
  refine x_aload_n dX3_tilt_16 rfl ?_
  refine s_getr (ci := 3) (k := 4) (N := 8) (C := RX3) (T := TX3) dX3_tilt_17 lfX3_24 inX3 rfl (by decide) (rfl) rfl ?_
  refine x_iload_n dX3_tilt_20 rfl ?_
  refine x_iload_n dX3_tilt_21 rfl ?_
  refine s_iast dX3_tilt_22 (rfl) (hi := rfl) (hj := by omega) (hn := by decide) ?_
  exact s_ret dX3_tilt_23 rfl (⟨rfl, rfl⟩)
/-! Sightings -/
set_option maxRecDepth 100000 in
theorem k_siadd (σ : Sg) {q : Nat} (hq : σ 56 2 = nI q) (hq6 : q ≤ 6) (s n : Int32) : Cm 0 YX6_add [.ref 56, .int s, .int n] σ (fun v σ' => (q = 6 ∧ v = some (.int 0) ∧ σ' = σ) ∨ (q < 6 ∧ v = some (.int 1) ∧ σ' 56 2 = nI (q + 1) ∧ σ' 57 = upd (σ 57) q s ∧ σ' 58 = upd (σ 58) q n ∧ ∀ c, ¬ (56 ≤ c ∧ c ≤ 58) → σ' c = σ c)) := by
  refine Cm_of (by decide +kernel) (Nat.le_of_ble_eq_true rfl) ?_
  rcases Nat.lt_or_ge q 6 with h6 | h6
  · skip

    refine x_aload_n dX6_add_0 rfl ?_
    refine s_geti (ci := 6) (k := 2) (N := 3) (C := RX6) (T := TX6) dX6_add_1 lfX6_18 inX6 rfl (by decide) (rfl) rfl ?_
    refine x_bipush (v := 6) dX6_add_4 (by decide) ?_
    refine x_icmp_lt (tgt := 11) dX6_add_6 (by decide) (fun c_6 => ?_) (fun c_6 => (absurd (by rw [hq]; exact (show nI q < nI 6 from nI_lt h6 (by decide))) c_6))
    refine x_aload_n dX6_add_11 rfl ?_
    refine s_getr (ci := 6) (k := 0) (N := 3) (C := RX6) (T := TX6) dX6_add_12 lfX6_9 inX6 rfl (by decide) (rfl) rfl ?_
    refine x_aload_n dX6_add_15 rfl ?_
    refine s_geti (ci := 6) (k := 2) (N := 3) (C := RX6) (T := TX6) dX6_add_16 lfX6_18 inX6 rfl (by decide) (rfl) rfl ?_
    refine x_iload_n dX6_add_19 rfl ?_
    refine s_iast dX6_add_20 (rfl) (hi := hq) (hj := by omega) (hn := by decide) ?_
    refine xname (fun σ_20 e_20 => ?_)
    refine x_aload_n dX6_add_21 rfl ?_
    refine s_getr (ci := 6) (k := 1) (N := 3) (C := RX6) (T := TX6) dX6_add_22 lfX6_15 inX6 rfl (by decide) (rfl) rfl ?_
    refine x_aload_n dX6_add_25 rfl ?_
    refine s_geti (ci := 6) (k := 2) (N := 3) (C := RX6) (T := TX6) dX6_add_26 lfX6_18 inX6 rfl (by decide) (rfl) rfl ?_
    refine x_iload_n dX6_add_29 rfl ?_
    refine s_iast dX6_add_30 (rfl) (hi := by simp [e_20, sg_at]; exact hq) (hj := by omega) (hn := by decide) ?_
    refine xname (fun σ_30 e_30 => ?_)
    refine x_aload_n dX6_add_31 rfl ?_
    refine x_dup dX6_add_32 rfl ?_
    refine s_geti (ci := 6) (k := 2) (N := 3) (C := RX6) (T := TX6) dX6_add_33 lfX6_18 inX6 rfl (by decide) (rfl) rfl ?_
    refine x_iconst (v := 1) dX6_add_36 (by decide) ?_
    refine x_iadd dX6_add_37 ?_
    refine s_puti (ci := 6) (k := 2) (N := 3) (C := RX6) (T := TX6) (ty0 := tyX6) dX6_add_38 lfX6_18 inX6 tyX6_ok nmX6 rfl (by decide) rfl rfl (rfl) rfl ?_
    refine xname (fun σ_38 e_38 => ?_)
    refine x_iconst (v := 1) dX6_add_41 (by decide) ?_
    refine s_zret dX6_add_42 rfl (by first | exact Or.inl rfl | exact Or.inr rfl | assumption) ?_
    refine Or.inr ⟨h6, rfl, ?_, ?_, ?_, fun c hc => ?_⟩
    all_goals first | (simp [e_38, e_30, e_20, sw_at, sg_at, sg_rw, hq]; done) | (simp [e_38, e_30, e_20, sw_at, sg_at, sg_rw, hq]; exact nI_1 q) | skip
    have hw : ∀ i, 56 ≤ i → i ≤ 58 → c ≠ i := by omega
    simp [e_38, e_30, e_20, sw_at, sg_at, sg_rw, hw]
  · obtain rfl : q = 6 := by omega
    refine x_aload_n dX6_add_0 rfl ?_
    refine s_geti (ci := 6) (k := 2) (N := 3) (C := RX6) (T := TX6) dX6_add_1 lfX6_18 inX6 rfl (by decide) (rfl) rfl ?_
    refine x_bipush (v := 6) dX6_add_4 (by decide) ?_
    refine x_icmp_lt (tgt := 11) dX6_add_6 (by decide) (fun c_6 => (absurd c_6 (by rw [hq]; decide))) (fun c_6 => ?_)
    refine x_iconst (v := 0) dX6_add_9 (by decide) ?_
    exact s_zret dX6_add_10 rfl (by first | exact Or.inl rfl | exact Or.inr rfl | assumption) (Or.inl ⟨rfl, rfl, rfl⟩)
def ldF (ti : FN) : Nat → Int32
  | 0 => 0
  | k + 1 => if ldF ti k < ti k then ti k else ldF ti k
set_option maxRecDepth 100000 in
theorem l_lastDay (σ : Sg) {q : Nat} (hq : σ 56 2 = nI q) (hq6 : q ≤ 6) : ∀ (j k : Nat), k + j = q → Ex (YX6_lastDay, 1, xB0, none) 4 [.ref 56, .int (ldF (σ 58) k), .int (nI k)] [] (xMs σ) (xQ (fun v σ' => v = some (.int (ldF (σ 58) q)) ∧ σ' = σ)) := by
  intro j
  induction j with
  | zero =>
    intro k hk
    have hk : k = q := by omega
    subst hk
    refine x_iload_n dX6_lastDay_4 rfl ?_
    refine x_aload_n dX6_lastDay_5 rfl ?_
    refine s_geti (ci := 6) (k := 2) (N := 3) (C := RX6) (T := TX6) dX6_lastDay_6 lfX6_18 inX6 rfl (by decide) (rfl) rfl ?_
    refine x_icmp_ge (tgt := 29) dX6_lastDay_9 (by decide) (fun c_9 => ?_) (fun c_9 => (absurd (by rw [hq]; exact Int32.le_refl _) c_9))
    refine x_iload_n dX6_lastDay_29 rfl ?_
    exact s_iret dX6_lastDay_30 rfl (⟨rfl, rfl⟩)
  | succ j ih =>
    intro k hk
    have hkn : k < q := by omega
    refine x_iload_n dX6_lastDay_4 rfl ?_
    refine x_aload_n dX6_lastDay_5 rfl ?_
    refine s_geti (ci := 6) (k := 2) (N := 3) (C := RX6) (T := TX6) dX6_lastDay_6 lfX6_18 inX6 rfl (by decide) (rfl) rfl ?_
    refine x_icmp_ge (tgt := 29) dX6_lastDay_9 (by decide) (fun c_9 => (absurd c_9 (by rw [hq]; exact nI_ge hkn (by omega)))) (fun c_9 => ?_)
    refine x_iload_n dX6_lastDay_12 rfl ?_
    refine x_aload_n dX6_lastDay_13 rfl ?_
    refine s_getr (ci := 6) (k := 1) (N := 3) (C := RX6) (T := TX6) dX6_lastDay_14 lfX6_15 inX6 rfl (by decide) (rfl) rfl ?_
    refine x_iload_n dX6_lastDay_17 rfl ?_
    refine s_iald dX6_lastDay_18 (rfl) (hi := rfl) (hj := by omega) (hn := by decide) ?_
    refine s_max dX6_lastDay_19 tmX6_22 rfl (by decide) (by decide) ?_
    refine x_istore_n dX6_lastDay_22 (by decide) rfl ?_
    refine s_iinc dX6_lastDay_23 rfl (by decide) rfl ?_
    refine x_goto (tgt := 4) dX6_lastDay_26 (by decide) ?_
    exact ih (k + 1) (by omega)
set_option maxRecDepth 100000 in
theorem k_lastDay (σ : Sg) {q : Nat} (hq : σ 56 2 = nI q) (hq6 : q ≤ 6) : Cm 1 YX6_lastDay [.ref 56] σ (fun v σ' => v = some (.int (ldF (σ 58) q)) ∧ σ' = σ) := by
  refine Cm_of (by decide +kernel) (Nat.le_of_ble_eq_true rfl) ?_
  refine x_iconst (v := 0) dX6_lastDay_0 (by decide) ?_
  refine x_istore_n dX6_lastDay_1 (by decide) rfl ?_
  refine x_iconst (v := 0) dX6_lastDay_2 (by decide) ?_
  refine x_istore_n dX6_lastDay_3 (by decide) rfl ?_
  exact l_lastDay σ hq hq6 q 0 (by omega)
def alF (pl ti : FN) (s n : Int32) : Nat → Bool
  | 0 => true
  | k + 1 => alF pl ti s n k && !(decide (ti k = n) && !decide (pl k = s))
theorem alF_no {pl ti : FN} {s n : Int32} {k : Nat} (h1 : ti k = n) (h2 : ¬ pl k = s) : ∀ q, k < q → alF pl ti s n q = false := by
  intro q
  induction q with
  | zero => intro h; omega
  | succ q ih =>
    intro h
    by_cases e : k = q
    · subst e
      simp [alF, h1, h2]
    · simp [alF, ih (by omega)]
set_option maxRecDepth 100000 in
theorem l_allow (σ : Sg) {q : Nat} (hq : σ 56 2 = nI q) (hq6 : q ≤ 6) (s n : Int32) : ∀ (j k : Nat), k + j = q → alF (σ 57) (σ 58) s n k = true → Ex (YX6_allow, 0, xB0, none) 2 [.ref 56, .int s, .int n, .int (nI k)] [] (xMs σ) (xQ (fun v σ' => v = some (.int (bI (alF (σ 57) (σ 58) s n q))) ∧ σ' = σ)) := by
  intro j
  induction j with
  | zero =>
    intro k hk ha
    have hk : k = q := by omega
    subst hk
    refine x_iload_n dX6_allow_2 rfl ?_
    refine x_aload_n dX6_allow_3 rfl ?_
    refine s_geti (ci := 6) (k := 2) (N := 3) (C := RX6) (T := TX6) dX6_allow_4 lfX6_18 inX6 rfl (by decide) (rfl) rfl ?_
    refine x_icmp_ge (tgt := 38) dX6_allow_7 (by decide) (fun c_7 => ?_) (fun c_7 => (absurd (by rw [hq]; exact Int32.le_refl _) c_7))
    refine x_iconst (v := 1) dX6_allow_38 (by decide) ?_
    exact s_zret dX6_allow_39 rfl (by first | exact Or.inl rfl | exact Or.inr rfl | assumption) (by rw [ha]; exact ⟨rfl, rfl⟩)
  | succ j ih =>
    intro k hk ha
    have hkn : k < q := by omega
    refine x_iload_n dX6_allow_2 rfl ?_
    refine x_aload_n dX6_allow_3 rfl ?_
    refine s_geti (ci := 6) (k := 2) (N := 3) (C := RX6) (T := TX6) dX6_allow_4 lfX6_18 inX6 rfl (by decide) (rfl) rfl ?_
    refine x_icmp_ge (tgt := 38) dX6_allow_7 (by decide) (fun c_7 => (absurd c_7 (by rw [hq]; exact nI_ge hkn (by omega)))) (fun c_7 => ?_)
    refine x_aload_n dX6_allow_10 rfl ?_
    refine s_getr (ci := 6) (k := 1) (N := 3) (C := RX6) (T := TX6) dX6_allow_11 lfX6_15 inX6 rfl (by decide) (rfl) rfl ?_
    refine x_iload_n dX6_allow_14 rfl ?_
    refine s_iald dX6_allow_15 (rfl) (hi := rfl) (hj := by omega) (hn := by decide) ?_
    refine x_iload_n dX6_allow_16 rfl ?_
    refine x_icmp_ne (tgt := 32) dX6_allow_17 (by decide) (fun c_17 => ?_) (fun c_17 => ?_)
    · refine s_iinc dX6_allow_32 rfl (by decide) rfl ?_
      refine x_goto (tgt := 2) dX6_allow_35 (by decide) ?_
      refine ih (k + 1) (by omega) ?_
      first | (simp [alF, ha, c_17]; done) | (simp [alF, ha, c_27]; done)
    · refine x_aload_n dX6_allow_20 rfl ?_
      refine s_getr (ci := 6) (k := 0) (N := 3) (C := RX6) (T := TX6) dX6_allow_21 lfX6_9 inX6 rfl (by decide) (rfl) rfl ?_
      refine x_iload_n dX6_allow_24 rfl ?_
      refine s_iald dX6_allow_25 (rfl) (hi := rfl) (hj := by omega) (hn := by decide) ?_
      refine x_iload_n dX6_allow_26 rfl ?_
      refine x_icmp_eq (tgt := 32) dX6_allow_27 (by decide) (fun c_27 => ?_) (fun c_27 => ?_)
      · refine s_iinc dX6_allow_32 rfl (by decide) rfl ?_
        refine x_goto (tgt := 2) dX6_allow_35 (by decide) ?_
        refine ih (k + 1) (by omega) ?_
        first | (simp [alF, ha, c_17]; done) | (simp [alF, ha, c_27]; done)
      · refine x_iconst (v := 0) dX6_allow_30 (by decide) ?_
        exact s_zret dX6_allow_31 rfl (by first | exact Or.inl rfl | exact Or.inr rfl | assumption) (by rw [alF_no c_17 c_27 q hkn]; exact ⟨rfl, rfl⟩)
set_option maxRecDepth 100000 in
theorem k_allow (σ : Sg) {q : Nat} (hq : σ 56 2 = nI q) (hq6 : q ≤ 6) (s n : Int32) : Cm 0 YX6_allow [.ref 56, .int s, .int n] σ (fun v σ' => v = some (.int (bI (alF (σ 57) (σ 58) s n q))) ∧ σ' = σ) := by
  refine Cm_of (by decide +kernel) (Nat.le_of_ble_eq_true rfl) ?_
  refine x_iconst (v := 0) dX6_allow_0 (by decide) ?_
  refine x_istore_n dX6_allow_1 (by decide) rfl ?_
  exact l_allow σ hq hq6 s n q 0 (by omega) rfl
/-! Moment -/
theorem cpN_same {N : Nat} {f : FN} : cpN N f f = f := by funext k; unfold cpN; split <;> rfl
set_option maxRecDepth 100000 in
theorem k_mobegin (σ : Sg) : Cm 1 YX1_begin [.ref 15, .ref 3] σ (fun v σ' => v = none ∧ (∀ n, n ≤ 8 → moC n σ' 15 = (tr n (σ 7), tr n (σ 6), -1, 0)) ∧ ∀ c, ¬ (15 ≤ c ∧ c ≤ 17) → σ' c = σ c) := by
  refine Cm_of (by decide +kernel) (Nat.le_of_ble_eq_true rfl) ?_

  refine x_aload_n dX1_begin_0 rfl ?_
  refine s_getrN (ci := 3) (k := 3) (N := 8) (C := RX3) (T := TX3) dX1_begin_1 lfX1_25 inX3 rfl (by decide) (rfl) rfl ?_
  refine x_iconst (v := 0) dX1_begin_4 (by decide) ?_
  refine x_aload_n dX1_begin_5 rfl ?_
  refine s_getr (ci := 1) (k := 0) (N := 4) (C := RX1) (T := TX1) dX1_begin_6 lfX1_9 inX1 rfl (by decide) (rfl) rfl ?_
  refine x_iconst (v := 0) dX1_begin_9 (by decide) ?_
  refine x_bipush (v := 8) dX1_begin_10 (by decide) ?_
  refine s_copy (N := 8) dX1_begin_12 tmX1_28 (rfl) (rfl) (by decide) (by decide) (by decide) (by decide) (by decide) (by decide) ?_
  refine xname (fun σ_12 e_12 => ?_)
  refine x_aload_n dX1_begin_15 rfl ?_
  refine s_getrN (ci := 3) (k := 2) (N := 8) (C := RX3) (T := TX3) dX1_begin_16 lfX1_34 inX3 rfl (by decide) (rfl) rfl ?_
  refine x_iconst (v := 0) dX1_begin_19 (by decide) ?_
  refine x_aload_n dX1_begin_20 rfl ?_
  refine s_getr (ci := 1) (k := 1) (N := 4) (C := RX1) (T := TX1) dX1_begin_21 lfX1_15 inX1 rfl (by decide) (rfl) rfl ?_
  refine x_iconst (v := 0) dX1_begin_24 (by decide) ?_
  refine x_bipush (v := 8) dX1_begin_25 (by decide) ?_
  refine s_copy (N := 8) dX1_begin_27 tmX1_28 (rfl) (rfl) (by decide) (by decide) (by decide) (by decide) (by decide) (by decide) ?_
  refine xname (fun σ_27 e_27 => ?_)
  refine x_aload_n dX1_begin_30 rfl ?_
  refine x_iconst (v := -1) dX1_begin_31 (by decide) ?_
  refine s_puti (ci := 1) (k := 2) (N := 4) (C := RX1) (T := TX1) (ty0 := tyX1) dX1_begin_32 lfX1_18 inX1 tyX1_ok nmX1 rfl (by decide) rfl rfl (rfl) rfl ?_
  refine xname (fun σ_32 e_32 => ?_)
  refine x_aload_n dX1_begin_35 rfl ?_
  refine x_iconst (v := 0) dX1_begin_36 (by decide) ?_
  refine s_puti (ci := 1) (k := 3) (N := 4) (C := RX1) (T := TX1) (ty0 := tyX1) dX1_begin_37 lfX1_22 inX1 tyX1_ok nmX1 rfl (by decide) rfl rfl (rfl) rfl ?_
  refine xname (fun σ_37 e_37 => ?_)
  refine s_ret dX1_begin_40 rfl ?_
  refine ⟨rfl, fun n h8 => ?_, fun c hc => ?_⟩
  · simp [moC, e_37, e_32, e_27, e_12, sw_at, sg_at, sg_rw, cpN_tr h8]
  · have hq : ∀ i, 15 ≤ i → i ≤ 17 → c ≠ i := by omega
    simp [e_37, e_32, e_27, e_12, sw_at, sg_at, sg_rw, hq]
set_option maxRecDepth 100000 in
/-- a Moment is made as another one -/
theorem k_mocopy (σ : Sg) {m o : Nat} (hm : xMo m) (ho : xMo o) (hne : m ≠ o) : Cm 1 YX1_copyFrom [.ref m, .ref o] σ (fun v σ' => v = none ∧ (∀ n, n ≤ 8 → moC n σ' m = moC n σ o) ∧ ∀ c, c ≠ m → c ≠ m + 1 → c ≠ m + 2 → σ' c = σ c) := by
  refine Cm_of (by decide +kernel) (Nat.le_of_ble_eq_true rfl) ?_
  have ha := xMo_two hm ho hne
  have q1 : m + 1 ≠ m := by omega
  have q2 : m + 2 ≠ m := by omega
  have q3 : m + 1 ≠ m + 2 := by omega
  have q4 : m + 2 ≠ m + 1 := by omega
  have q5 : m ≠ m + 1 := by omega
  have q6 : m ≠ m + 2 := by omega
  have q7 : o + 1 ≠ m + 1 := by omega
  have q8 : o + 2 ≠ m + 1 := by omega
  have q9 : o + 2 ≠ m + 2 := by omega
  have q10 : o ≠ m + 1 := by omega
  have q11 : o ≠ m + 2 := by omega
  have q12 : o ≠ m := by omega

  refine x_aload_n dX1_copyFrom_0 rfl ?_
  refine s_getr (ci := 1) (k := 0) (N := 4) (C := RX1) (T := TX1) dX1_copyFrom_1 lfX1_9 inX1 rfl (by decide) (ho.1) rfl ?_
  refine x_iconst (v := 0) dX1_copyFrom_4 (by decide) ?_
  refine x_aload_n dX1_copyFrom_5 rfl ?_
  refine s_getr (ci := 1) (k := 0) (N := 4) (C := RX1) (T := TX1) dX1_copyFrom_6 lfX1_9 inX1 rfl (by decide) (hm.1) rfl ?_
  refine x_iconst (v := 0) dX1_copyFrom_9 (by decide) ?_
  refine x_bipush (v := 8) dX1_copyFrom_10 (by decide) ?_
  refine s_copy (N := 8) dX1_copyFrom_12 tmX1_28 (ho.2.1) (hm.2.1) (by decide) (by decide) (by decide) (by decide) (by decide) (by decide) ?_
  refine xname (fun σ_12 e_12 => ?_)
  refine x_aload_n dX1_copyFrom_15 rfl ?_
  refine s_getr (ci := 1) (k := 1) (N := 4) (C := RX1) (T := TX1) dX1_copyFrom_16 lfX1_15 inX1 rfl (by decide) (ho.1) rfl ?_
  refine x_iconst (v := 0) dX1_copyFrom_19 (by decide) ?_
  refine x_aload_n dX1_copyFrom_20 rfl ?_
  refine s_getr (ci := 1) (k := 1) (N := 4) (C := RX1) (T := TX1) dX1_copyFrom_21 lfX1_15 inX1 rfl (by decide) (hm.1) rfl ?_
  refine x_iconst (v := 0) dX1_copyFrom_24 (by decide) ?_
  refine x_bipush (v := 8) dX1_copyFrom_25 (by decide) ?_
  refine s_copy (N := 8) dX1_copyFrom_27 tmX1_28 (ho.2.2.1) (hm.2.2.1) (by decide) (by decide) (by decide) (by decide) (by decide) (by decide) ?_
  refine xname (fun σ_27 e_27 => ?_)
  refine x_aload_n dX1_copyFrom_30 rfl ?_
  refine x_aload_n dX1_copyFrom_31 rfl ?_
  refine s_geti (ci := 1) (k := 2) (N := 4) (C := RX1) (T := TX1) dX1_copyFrom_32 lfX1_18 inX1 rfl (by decide) (ho.1) rfl ?_
  refine s_puti (ci := 1) (k := 2) (N := 4) (C := RX1) (T := TX1) (ty0 := tyX1) dX1_copyFrom_35 lfX1_18 inX1 tyX1_ok nmX1 rfl (by decide) rfl rfl (hm.1) rfl ?_
  refine xname (fun σ_35 e_35 => ?_)
  refine x_aload_n dX1_copyFrom_38 rfl ?_
  refine x_aload_n dX1_copyFrom_39 rfl ?_
  refine s_geti (ci := 1) (k := 3) (N := 4) (C := RX1) (T := TX1) dX1_copyFrom_40 lfX1_22 inX1 rfl (by decide) (ho.1) rfl ?_
  refine s_puti (ci := 1) (k := 3) (N := 4) (C := RX1) (T := TX1) (ty0 := tyX1) dX1_copyFrom_43 lfX1_22 inX1 tyX1_ok nmX1 rfl (by decide) rfl rfl (hm.1) rfl ?_
  refine xname (fun σ_43 e_43 => ?_)
  refine s_ret dX1_copyFrom_46 rfl ?_
  refine ⟨rfl, fun n h8 => ?_, fun c h0 h1 h2 => ?_⟩
  · simp [moC, e_43, e_35, e_27, e_12, sw_at, sg_at, sg_rw, q1, q2, q3, q4, q5, q6, q7, q8, q9, q10, q11, q12, cpN_tr h8]
  · simp [e_43, e_35, e_27, e_12, sw_at, sg_at, sg_rw, q1, q2, q3, q4, q5, q6, q7, q8, q9, q10, q11, q12, h0, h1, h2]
