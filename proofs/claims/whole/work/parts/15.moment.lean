/-! ===== Plan, Sightings, Moment: contracts ===== -/
def vbF (kd : FN) (i : Nat) : Bool := decide (¬ kd i = 2)
set_option maxRecDepth 100000 in
theorem l_votingBits (σ : Sg) {n : Nat} (hn : σ 3 5 = nI n) (hn8 : n ≤ 8) : ∀ (j k : Nat), k + j = n → Ex (YX3_votingBits, 0, xB0, none) 4 [.ref 3, .int (nI (stF (vbF (σ 4)) k)), .int (nI k)] [] (xMs σ) (xQ (fun v σ' => v = some (.int (nI (stF (vbF (σ 4)) n))) ∧ σ' = σ)) := by
  intro j
  induction j with
  | zero =>
    intro k hk
    have hk : k = n := by omega
    subst hk
    refine x_iload_n dX3_votingBits_4 rfl ?_
    refine x_aload_n dX3_votingBits_5 rfl ?_
    refine s_geti (ci := 3) (k := 5) (N := 8) (C := RX3) (T := TX3) dX3_votingBits_6 lfX3_27 inX3 rfl (by decide) (rfl) rfl ?_
    refine x_icmp_ge (tgt := 34) dX3_votingBits_9 (by decide) (fun c_9 => ?_) (fun c_9 => (absurd (by rw [hn]; exact Int32.le_refl _) c_9))
    refine x_iload_n dX3_votingBits_34 rfl ?_
    exact s_iret dX3_votingBits_35 rfl (⟨rfl, rfl⟩)
  | succ j ih =>
    intro k hk
    have hkn : k < n := by omega
    have step : ∀ x : Int32, x = nI (stF (vbF (σ 4)) (k + 1)) → Ex (YX3_votingBits, 0, xB0, none) 4 [.ref 3, .int x, .int (nI (k + 1))] [] (xMs σ) (xQ (fun v σ' => v = some (.int (nI (stF (vbF (σ 4)) n))) ∧ σ' = σ)) := fun x hx => by
      subst hx
      exact ih (k + 1) (by omega)
    refine x_iload_n dX3_votingBits_4 rfl ?_
    refine x_aload_n dX3_votingBits_5 rfl ?_
    refine s_geti (ci := 3) (k := 5) (N := 8) (C := RX3) (T := TX3) dX3_votingBits_6 lfX3_27 inX3 rfl (by decide) (rfl) rfl ?_
    refine x_icmp_ge (tgt := 34) dX3_votingBits_9 (by decide) (fun c_9 => (absurd c_9 (by rw [hn]; exact nI_ge hkn (by omega)))) (fun c_9 => ?_)
    refine x_aload_n dX3_votingBits_12 rfl ?_
    refine s_getr (ci := 3) (k := 0) (N := 8) (C := RX3) (T := TX3) dX3_votingBits_13 lfX3_9 inX3 rfl (by decide) (rfl) rfl ?_
    refine x_iload_n dX3_votingBits_16 rfl ?_
    refine s_iald dX3_votingBits_17 (rfl) (hi := rfl) (hj := by omega) (hn := by decide) ?_
    refine x_iconst (v := 2) dX3_votingBits_18 (by decide) ?_
    refine x_icmp_eq (tgt := 28) dX3_votingBits_19 (by decide) (fun c_19 => ?_) (fun c_19 => ?_)
    · refine s_iinc dX3_votingBits_28 rfl (by decide) rfl ?_
      refine x_goto (tgt := 4) dX3_votingBits_31 (by decide) ?_
      first | exact step _ (stF_s (by omega) (decide_eq_true c_19)) | exact step _ (stF_n (fun h => (of_decide_eq_true h) c_19))
    · refine x_iload_n dX3_votingBits_22 rfl ?_
      refine x_iconst (v := 1) dX3_votingBits_23 (by decide) ?_
      refine x_iload_n dX3_votingBits_24 rfl ?_
      refine x_ishl dX3_votingBits_25 ?_
      refine x_ior dX3_votingBits_26 ?_
      refine x_istore_n dX3_votingBits_27 (by decide) rfl ?_
      refine s_iinc dX3_votingBits_28 rfl (by decide) rfl ?_
      refine x_goto (tgt := 4) dX3_votingBits_31 (by decide) ?_
      first | exact step _ (stF_s (by omega) (decide_eq_true c_19)) | exact step _ (stF_n (fun h => (of_decide_eq_true h) c_19))
set_option maxRecDepth 100000 in
theorem k_votingBits (σ : Sg) {n : Nat} (hn : σ 3 5 = nI n) (hn8 : n ≤ 8) : Cm 0 YX3_votingBits [.ref 3] σ (fun v σ' => v = some (.int (nI (stF (vbF (tr n (σ 4))) n))) ∧ σ' = σ) := by
  refine Cm_of (by decide +kernel) (Nat.le_of_ble_eq_true rfl) ?_
  rw [stF_congr (p := vbF (tr n (σ 4))) (q := vbF (σ 4)) n (fun j hj => by unfold vbF; rw [tr_i hj])]
  refine x_iconst (v := 0) dX3_votingBits_0 (by decide) ?_
  refine x_istore_n dX3_votingBits_1 (by decide) rfl ?_
  refine x_iconst (v := 0) dX3_votingBits_2 (by decide) ?_
  refine x_istore_n dX3_votingBits_3 (by decide) rfl ?_
  exact l_votingBits σ hn hn8 n 0 (by omega)
set_option maxRecDepth 100000 in
theorem k_plclear (σ : Sg) : Cm 0 YX3_clear [.ref 9] σ (fun v σ' => v = none ∧ σ' = sg (sg (sg σ 9 5 0) 9 6 30) 9 7 8) := by
  refine Cm_of (by decide +kernel) (Nat.le_of_ble_eq_true rfl) ?_
  refine x_aload_n dX3_clear_0 rfl ?_
  refine x_iconst (v := 0) dX3_clear_1 (by decide) ?_
  refine s_puti (ci := 3) (k := 5) (N := 8) (C := RX3) (T := TX3) (ty0 := tyX3) dX3_clear_2 lfX3_27 inX3 tyX3_ok nmX3 rfl (by decide) rfl rfl (rfl) rfl ?_
  refine x_aload_n dX3_clear_5 rfl ?_
  refine x_bipush (v := 30) dX3_clear_6 (by decide) ?_
  refine s_puti (ci := 3) (k := 6) (N := 8) (C := RX3) (T := TX3) (ty0 := tyX3) dX3_clear_8 lfX3_31 inX3 tyX3_ok nmX3 rfl (by decide) rfl rfl (rfl) rfl ?_
  refine x_aload_n dX3_clear_11 rfl ?_
  refine x_bipush (v := 8) dX3_clear_12 (by decide) ?_
  refine s_puti (ci := 3) (k := 7) (N := 8) (C := RX3) (T := TX3) (ty0 := tyX3) dX3_clear_14 lfX3_34 inX3 tyX3_ok nmX3 rfl (by decide) rfl rfl (rfl) rfl ?_
  exact s_ret dX3_clear_17 rfl (⟨rfl, rfl⟩)
/-- a Plan's picture -/
def plP (n : Nat) (σ : Sg) (P : Nat) : PL := (n, σ P 6, σ P 7, tr n (σ (P + 1)), tr n (σ (P + 2)), tr n (σ (P + 3)), tr n (σ (P + 4)), tr n (σ (P + 5)))
theorem cpN_i {N k : Nat} {f g : FN} (h : k < N) : cpN N f g k = f k := if_pos h
theorem cpN_tr {N n : Nat} {f g : FN} (h : n ≤ N) : tr n (cpN N f g) = tr n f := tr_ext fun k hk => cpN_i (by omega)
set_option maxRecDepth 100000 in
set_option maxHeartbeats 2000000 in
theorem k_plcopy (σ : Sg) {P O : Nat} (hc : P = 9 ∧ O = 3 ∨ P = 3 ∧ O = 9) : Cm 1 YX3_copyFrom [.ref P, .ref O] σ (fun v σ' => v = none ∧ σ' P 5 = σ O 5 ∧ (∀ n, n ≤ 8 → plP n σ' P = plP n σ O) ∧ ∀ c, ¬ (P ≤ c ∧ c ≤ P + 5) → σ' c = σ c) := by
  refine Cm_of (by decide +kernel) (Nat.le_of_ble_eq_true rfl) ?_
  have fin : ∀ (P O : Nat) (τ : Sg), (τ (P + 1) = cpN 8 (σ (O + 1)) (σ (P + 1)) ∧ τ (P + 2) = cpN 8 (σ (O + 2)) (σ (P + 2)) ∧ τ (P + 3) = cpN 8 (σ (O + 3)) (σ (P + 3)) ∧ τ (P + 4) = cpN 8 (σ (O + 4)) (σ (P + 4)) ∧ τ (P + 5) = cpN 8 (σ (O + 5)) (σ (P + 5))) → τ P 5 = σ O 5 → τ P 6 = σ O 6 → τ P 7 = σ O 7 → (∀ c, ¬ (P ≤ c ∧ c ≤ P + 5) → τ c = σ c) → (none : Option Value) = none ∧ τ P 5 = σ O 5 ∧ (∀ n, n ≤ 8 → plP n τ P = plP n σ O) ∧ ∀ c, ¬ (P ≤ c ∧ c ≤ P + 5) → τ c = σ c := by
    intro P O τ ⟨h1, h2, h3, h4, h5⟩ h6 h7 h8 h9
    refine ⟨rfl, h6, fun n hn => ?_, h9⟩
    unfold plP
    rw [h1, h2, h3, h4, h5, h7, h8, cpN_tr hn, cpN_tr hn, cpN_tr hn, cpN_tr hn, cpN_tr hn]
  rcases hc with ⟨rfl, rfl⟩ | ⟨rfl, rfl⟩

  · skip
    refine x_aload_n dX3_copyFrom_0 rfl ?_
    refine s_getr (ci := 3) (k := 0) (N := 8) (C := RX3) (T := TX3) dX3_copyFrom_1 lfX3_9 inX3 rfl (by decide) (rfl) rfl ?_
    refine x_iconst (v := 0) dX3_copyFrom_4 (by decide) ?_
    refine x_aload_n dX3_copyFrom_5 rfl ?_
    refine s_getr (ci := 3) (k := 0) (N := 8) (C := RX3) (T := TX3) dX3_copyFrom_6 lfX3_9 inX3 rfl (by decide) (rfl) rfl ?_
    refine x_iconst (v := 0) dX3_copyFrom_9 (by decide) ?_
    refine x_bipush (v := 8) dX3_copyFrom_10 (by decide) ?_
    refine s_copy (N := 8) dX3_copyFrom_12 tmX3_37 (rfl) (rfl) (by decide) (by decide) (by decide) (by decide) (by decide) (by decide) ?_
    refine xname (fun σ_12 e_12 => ?_)
    refine x_aload_n dX3_copyFrom_15 rfl ?_
    refine s_getr (ci := 3) (k := 1) (N := 8) (C := RX3) (T := TX3) dX3_copyFrom_16 lfX3_15 inX3 rfl (by decide) (rfl) rfl ?_
    refine x_iconst (v := 0) dX3_copyFrom_19 (by decide) ?_
    refine x_aload_n dX3_copyFrom_20 rfl ?_
    refine s_getr (ci := 3) (k := 1) (N := 8) (C := RX3) (T := TX3) dX3_copyFrom_21 lfX3_15 inX3 rfl (by decide) (rfl) rfl ?_
    refine x_iconst (v := 0) dX3_copyFrom_24 (by decide) ?_
    refine x_bipush (v := 8) dX3_copyFrom_25 (by decide) ?_
    refine s_copy (N := 8) dX3_copyFrom_27 tmX3_37 (rfl) (rfl) (by decide) (by decide) (by decide) (by decide) (by decide) (by decide) ?_
    refine xname (fun σ_27 e_27 => ?_)
    refine x_aload_n dX3_copyFrom_30 rfl ?_
    refine s_getr (ci := 3) (k := 2) (N := 8) (C := RX3) (T := TX3) dX3_copyFrom_31 lfX3_18 inX3 rfl (by decide) (rfl) rfl ?_
    refine x_iconst (v := 0) dX3_copyFrom_34 (by decide) ?_
    refine x_aload_n dX3_copyFrom_35 rfl ?_
    refine s_getr (ci := 3) (k := 2) (N := 8) (C := RX3) (T := TX3) dX3_copyFrom_36 lfX3_18 inX3 rfl (by decide) (rfl) rfl ?_
    refine x_iconst (v := 0) dX3_copyFrom_39 (by decide) ?_
    refine x_bipush (v := 8) dX3_copyFrom_40 (by decide) ?_
    refine s_copy (N := 8) dX3_copyFrom_42 tmX3_37 (rfl) (rfl) (by decide) (by decide) (by decide) (by decide) (by decide) (by decide) ?_
    refine xname (fun σ_42 e_42 => ?_)
    refine x_aload_n dX3_copyFrom_45 rfl ?_
    refine s_getr (ci := 3) (k := 3) (N := 8) (C := RX3) (T := TX3) dX3_copyFrom_46 lfX3_21 inX3 rfl (by decide) (rfl) rfl ?_
    refine x_iconst (v := 0) dX3_copyFrom_49 (by decide) ?_
    refine x_aload_n dX3_copyFrom_50 rfl ?_
    refine s_getr (ci := 3) (k := 3) (N := 8) (C := RX3) (T := TX3) dX3_copyFrom_51 lfX3_21 inX3 rfl (by decide) (rfl) rfl ?_
    refine x_iconst (v := 0) dX3_copyFrom_54 (by decide) ?_
    refine x_bipush (v := 8) dX3_copyFrom_55 (by decide) ?_
    refine s_copy (N := 8) dX3_copyFrom_57 tmX3_37 (rfl) (rfl) (by decide) (by decide) (by decide) (by decide) (by decide) (by decide) ?_
    refine xname (fun σ_57 e_57 => ?_)
    refine x_aload_n dX3_copyFrom_60 rfl ?_
    refine s_getr (ci := 3) (k := 4) (N := 8) (C := RX3) (T := TX3) dX3_copyFrom_61 lfX3_24 inX3 rfl (by decide) (rfl) rfl ?_
    refine x_iconst (v := 0) dX3_copyFrom_64 (by decide) ?_
    refine x_aload_n dX3_copyFrom_65 rfl ?_
    refine s_getr (ci := 3) (k := 4) (N := 8) (C := RX3) (T := TX3) dX3_copyFrom_66 lfX3_24 inX3 rfl (by decide) (rfl) rfl ?_
    refine x_iconst (v := 0) dX3_copyFrom_69 (by decide) ?_
    refine x_bipush (v := 8) dX3_copyFrom_70 (by decide) ?_
    refine s_copy (N := 8) dX3_copyFrom_72 tmX3_37 (rfl) (rfl) (by decide) (by decide) (by decide) (by decide) (by decide) (by decide) ?_
    refine xname (fun σ_72 e_72 => ?_)
    refine x_aload_n dX3_copyFrom_75 rfl ?_
    refine x_aload_n dX3_copyFrom_76 rfl ?_
    refine s_geti (ci := 3) (k := 5) (N := 8) (C := RX3) (T := TX3) dX3_copyFrom_77 lfX3_27 inX3 rfl (by decide) (rfl) rfl ?_
    refine s_puti (ci := 3) (k := 5) (N := 8) (C := RX3) (T := TX3) (ty0 := tyX3) dX3_copyFrom_80 lfX3_27 inX3 tyX3_ok nmX3 rfl (by decide) rfl rfl (rfl) rfl ?_
    refine xname (fun σ_80 e_80 => ?_)
    refine x_aload_n dX3_copyFrom_83 rfl ?_
    refine x_aload_n dX3_copyFrom_84 rfl ?_
    refine s_geti (ci := 3) (k := 6) (N := 8) (C := RX3) (T := TX3) dX3_copyFrom_85 lfX3_31 inX3 rfl (by decide) (rfl) rfl ?_
    refine s_puti (ci := 3) (k := 6) (N := 8) (C := RX3) (T := TX3) (ty0 := tyX3) dX3_copyFrom_88 lfX3_31 inX3 tyX3_ok nmX3 rfl (by decide) rfl rfl (rfl) rfl ?_
    refine xname (fun σ_88 e_88 => ?_)
    refine x_aload_n dX3_copyFrom_91 rfl ?_
    refine x_aload_n dX3_copyFrom_92 rfl ?_
    refine s_geti (ci := 3) (k := 7) (N := 8) (C := RX3) (T := TX3) dX3_copyFrom_93 lfX3_34 inX3 rfl (by decide) (rfl) rfl ?_
    refine s_puti (ci := 3) (k := 7) (N := 8) (C := RX3) (T := TX3) (ty0 := tyX3) dX3_copyFrom_96 lfX3_34 inX3 tyX3_ok nmX3 rfl (by decide) rfl rfl (rfl) rfl ?_
    refine xname (fun σ_96 e_96 => ?_)
    refine s_ret dX3_copyFrom_99 rfl ?_
    refine fin 9 3 _ ⟨?_, ?_, ?_, ?_, ?_⟩ ?_ ?_ ?_ (fun c hc => ?_)
    all_goals first | (simp [e_96, e_88, e_80, e_72, e_57, e_42, e_27, e_12, sw_at, sg_at, sg_rw]; done) | skip
    have hq : ∀ i, 9 ≤ i → i ≤ 14 → c ≠ i := by omega
    simp [e_96, e_88, e_80, e_72, e_57, e_42, e_27, e_12, sw_at, sg_at, sg_rw, hq]
  · skip
    refine x_aload_n dX3_copyFrom_0 rfl ?_
    refine s_getr (ci := 3) (k := 0) (N := 8) (C := RX3) (T := TX3) dX3_copyFrom_1 lfX3_9 inX3 rfl (by decide) (rfl) rfl ?_
    refine x_iconst (v := 0) dX3_copyFrom_4 (by decide) ?_
    refine x_aload_n dX3_copyFrom_5 rfl ?_
    refine s_getr (ci := 3) (k := 0) (N := 8) (C := RX3) (T := TX3) dX3_copyFrom_6 lfX3_9 inX3 rfl (by decide) (rfl) rfl ?_
    refine x_iconst (v := 0) dX3_copyFrom_9 (by decide) ?_
    refine x_bipush (v := 8) dX3_copyFrom_10 (by decide) ?_
    refine s_copy (N := 8) dX3_copyFrom_12 tmX3_37 (rfl) (rfl) (by decide) (by decide) (by decide) (by decide) (by decide) (by decide) ?_
    refine xname (fun σ_12 e_12 => ?_)
    refine x_aload_n dX3_copyFrom_15 rfl ?_
    refine s_getr (ci := 3) (k := 1) (N := 8) (C := RX3) (T := TX3) dX3_copyFrom_16 lfX3_15 inX3 rfl (by decide) (rfl) rfl ?_
    refine x_iconst (v := 0) dX3_copyFrom_19 (by decide) ?_
    refine x_aload_n dX3_copyFrom_20 rfl ?_
    refine s_getr (ci := 3) (k := 1) (N := 8) (C := RX3) (T := TX3) dX3_copyFrom_21 lfX3_15 inX3 rfl (by decide) (rfl) rfl ?_
    refine x_iconst (v := 0) dX3_copyFrom_24 (by decide) ?_
    refine x_bipush (v := 8) dX3_copyFrom_25 (by decide) ?_
    refine s_copy (N := 8) dX3_copyFrom_27 tmX3_37 (rfl) (rfl) (by decide) (by decide) (by decide) (by decide) (by decide) (by decide) ?_
    refine xname (fun σ_27 e_27 => ?_)
    refine x_aload_n dX3_copyFrom_30 rfl ?_
    refine s_getr (ci := 3) (k := 2) (N := 8) (C := RX3) (T := TX3) dX3_copyFrom_31 lfX3_18 inX3 rfl (by decide) (rfl) rfl ?_
    refine x_iconst (v := 0) dX3_copyFrom_34 (by decide) ?_
    refine x_aload_n dX3_copyFrom_35 rfl ?_
    refine s_getr (ci := 3) (k := 2) (N := 8) (C := RX3) (T := TX3) dX3_copyFrom_36 lfX3_18 inX3 rfl (by decide) (rfl) rfl ?_
    refine x_iconst (v := 0) dX3_copyFrom_39 (by decide) ?_
    refine x_bipush (v := 8) dX3_copyFrom_40 (by decide) ?_
    refine s_copy (N := 8) dX3_copyFrom_42 tmX3_37 (rfl) (rfl) (by decide) (by decide) (by decide) (by decide) (by decide) (by decide) ?_
    refine xname (fun σ_42 e_42 => ?_)
    refine x_aload_n dX3_copyFrom_45 rfl ?_
    refine s_getr (ci := 3) (k := 3) (N := 8) (C := RX3) (T := TX3) dX3_copyFrom_46 lfX3_21 inX3 rfl (by decide) (rfl) rfl ?_
    refine x_iconst (v := 0) dX3_copyFrom_49 (by decide) ?_
    refine x_aload_n dX3_copyFrom_50 rfl ?_
    refine s_getr (ci := 3) (k := 3) (N := 8) (C := RX3) (T := TX3) dX3_copyFrom_51 lfX3_21 inX3 rfl (by decide) (rfl) rfl ?_
    refine x_iconst (v := 0) dX3_copyFrom_54 (by decide) ?_
    refine x_bipush (v := 8) dX3_copyFrom_55 (by decide) ?_
    refine s_copy (N := 8) dX3_copyFrom_57 tmX3_37 (rfl) (rfl) (by decide) (by decide) (by decide) (by decide) (by decide) (by decide) ?_
    refine xname (fun σ_57 e_57 => ?_)
    refine x_aload_n dX3_copyFrom_60 rfl ?_
    refine s_getr (ci := 3) (k := 4) (N := 8) (C := RX3) (T := TX3) dX3_copyFrom_61 lfX3_24 inX3 rfl (by decide) (rfl) rfl ?_
    refine x_iconst (v := 0) dX3_copyFrom_64 (by decide) ?_
    refine x_aload_n dX3_copyFrom_65 rfl ?_
    refine s_getr (ci := 3) (k := 4) (N := 8) (C := RX3) (T := TX3) dX3_copyFrom_66 lfX3_24 inX3 rfl (by decide) (rfl) rfl ?_
    refine x_iconst (v := 0) dX3_copyFrom_69 (by decide) ?_
    refine x_bipush (v := 8) dX3_copyFrom_70 (by decide) ?_
    refine s_copy (N := 8) dX3_copyFrom_72 tmX3_37 (rfl) (rfl) (by decide) (by decide) (by decide) (by decide) (by decide) (by decide) ?_
    refine xname (fun σ_72 e_72 => ?_)
    refine x_aload_n dX3_copyFrom_75 rfl ?_
    refine x_aload_n dX3_copyFrom_76 rfl ?_
    refine s_geti (ci := 3) (k := 5) (N := 8) (C := RX3) (T := TX3) dX3_copyFrom_77 lfX3_27 inX3 rfl (by decide) (rfl) rfl ?_
    refine s_puti (ci := 3) (k := 5) (N := 8) (C := RX3) (T := TX3) (ty0 := tyX3) dX3_copyFrom_80 lfX3_27 inX3 tyX3_ok nmX3 rfl (by decide) rfl rfl (rfl) rfl ?_
    refine xname (fun σ_80 e_80 => ?_)
    refine x_aload_n dX3_copyFrom_83 rfl ?_
    refine x_aload_n dX3_copyFrom_84 rfl ?_
    refine s_geti (ci := 3) (k := 6) (N := 8) (C := RX3) (T := TX3) dX3_copyFrom_85 lfX3_31 inX3 rfl (by decide) (rfl) rfl ?_
    refine s_puti (ci := 3) (k := 6) (N := 8) (C := RX3) (T := TX3) (ty0 := tyX3) dX3_copyFrom_88 lfX3_31 inX3 tyX3_ok nmX3 rfl (by decide) rfl rfl (rfl) rfl ?_
    refine xname (fun σ_88 e_88 => ?_)
    refine x_aload_n dX3_copyFrom_91 rfl ?_
    refine x_aload_n dX3_copyFrom_92 rfl ?_
    refine s_geti (ci := 3) (k := 7) (N := 8) (C := RX3) (T := TX3) dX3_copyFrom_93 lfX3_34 inX3 rfl (by decide) (rfl) rfl ?_
    refine s_puti (ci := 3) (k := 7) (N := 8) (C := RX3) (T := TX3) (ty0 := tyX3) dX3_copyFrom_96 lfX3_34 inX3 tyX3_ok nmX3 rfl (by decide) rfl rfl (rfl) rfl ?_
    refine xname (fun σ_96 e_96 => ?_)
    refine s_ret dX3_copyFrom_99 rfl ?_
    refine fin 3 9 _ ⟨?_, ?_, ?_, ?_, ?_⟩ ?_ ?_ ?_ (fun c hc => ?_)
    all_goals first | (simp [e_96, e_88, e_80, e_72, e_57, e_42, e_27, e_12, sw_at, sg_at, sg_rw]; done) | skip
    have hq : ∀ i, 3 ≤ i → i ≤ 8 → c ≠ i := by omega
    simp [e_96, e_88, e_80, e_72, e_57, e_42, e_27, e_12, sw_at, sg_at, sg_rw, hq]
