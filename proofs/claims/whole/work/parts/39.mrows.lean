/-! ===== RainBallotModel: rows of numbers are copied ===== -/
theorem nI_mul (a b : Nat) : nI a * nI b = nI (a * b) := (Int32.ofNat_mul a b).symm
theorem i_row (q k : Nat) : (18 : Int32) * nI q + nI k = nI (18 * q + k) := by
  rw [show (18 : Int32) = nI 18 from rfl, nI_mul, nI_add]

set_option maxRecDepth 100000 in
theorem l_mholds {d : Nat} {R : Option Value → xM → Prop} (σ0 : Sg)  (hk : ∀ W : FN, (∀ i, i < 18 → W (0 + i) = σ0 85 (0 + i)) → (∀ i, ¬ (0 ≤ i ∧ i < 0 + 18) → W i = σ0 91 i) → Ex (YX9_holds, d, xB0, none) 26 [.ref 81, .int (nI 18)] [] (xMs (sw σ0 91 W)) R) : ∀ (j k : Nat) (W : FN), k + j = 18 → (∀ i, i < k → W (0 + i) = σ0 85 (0 + i)) → (∀ i, ¬ (0 ≤ i ∧ i < 0 + k) → W i = σ0 91 i) →
    Ex (YX9_holds, d, xB0, none) 2 [.ref 81, .int (nI k)] [] (xMs (sw σ0 91 W)) R := by
  intro j
  induction j with
  | zero =>
    intro k W hk0 hW hO
    have hk1 : k = 18 := by omega
    subst hk1
    refine x_iload_n dX9_holds_2 rfl ?_
    refine x_bipush (v := 18) dX9_holds_3 (by decide) ?_
    refine x_icmp_ge (tgt := 26) dX9_holds_5 (by decide) (fun c_5 => ?_) (fun c_5 => (absurd (by decide) c_5))
    exact hk W hW hO
  | succ j ih =>
    intro k W hk0 hW hO
    have hkn : k < 18 := by omega
    have es : sw σ0 91 W 85 (0 + k) = σ0 85 (0 + k) := rfl
    refine x_iload_n dX9_holds_2 rfl ?_
    refine x_bipush (v := 18) dX9_holds_3 (by decide) ?_
    refine x_icmp_ge (tgt := 26) dX9_holds_5 (by decide) (fun c_5 => (absurd c_5 (show ¬ nI 18 ≤ nI k from nI_ge hkn (by omega)))) (fun c_5 => ?_)
    refine x_aload_n dX9_holds_8 rfl ?_
    refine s_getr (ci := 9) (k := 19) (N := 20) (C := RX9) (T := TX9) dX9_holds_9 lfX9_42 inX9 rfl (by decide) (rfl) rfl ?_
    refine x_iload_n dX9_holds_12 rfl ?_
    refine x_aload_n dX9_holds_13 rfl ?_
    refine s_getr (ci := 9) (k := 4) (N := 20) (C := RX9) (T := TX9) dX9_holds_14 lfX9_19 inX9 rfl (by decide) (rfl) rfl ?_
    refine x_iload_n dX9_holds_17 rfl ?_
    refine s_iald dX9_holds_18 (rfl) (hi := rfl) (hj := by omega) (hn := by decide) ?_
    refine s_iast dX9_holds_19 (rfl) (hi := rfl) (hj := by omega) (hn := by decide) ?_
    refine s_iinc dX9_holds_20 rfl (Nat.le_of_ble_eq_true rfl) rfl ?_
    refine x_goto (tgt := 2) dX9_holds_23 (by decide) ?_
    rw [sg_def _ 91, sw_sw, sw_s]
    refine ih (k + 1) _ (by omega) (fun i hi => ?_) (fun i hi => ?_)
    · unfold upd
      by_cases e : i = k
      · rw [if_pos (by omega), e]
        first | exact es | (simp only [Nat.zero_add] at es ⊢; exact es)
      · rw [if_neg (by omega)]
        exact hW i (by omega)
    · unfold upd
      rw [if_neg (by omega)]
      exact hO i (by omega)

set_option maxRecDepth 100000 in
theorem l_mlets {d : Nat} {R : Option Value → xM → Prop} (σ0 : Sg)  (hk : ∀ W : FN, (∀ i, i < 18 → W (0 + i) = σ0 91 (0 + i)) → (∀ i, ¬ (0 ≤ i ∧ i < 0 + 18) → W i = σ0 85 i) → Ex (YX9_lets, d, xB0, none) 26 [.ref 81, .int (nI 18)] [] (xMs (sw σ0 85 W)) R) : ∀ (j k : Nat) (W : FN), k + j = 18 → (∀ i, i < k → W (0 + i) = σ0 91 (0 + i)) → (∀ i, ¬ (0 ≤ i ∧ i < 0 + k) → W i = σ0 85 i) →
    Ex (YX9_lets, d, xB0, none) 2 [.ref 81, .int (nI k)] [] (xMs (sw σ0 85 W)) R := by
  intro j
  induction j with
  | zero =>
    intro k W hk0 hW hO
    have hk1 : k = 18 := by omega
    subst hk1
    refine x_iload_n dX9_lets_2 rfl ?_
    refine x_bipush (v := 18) dX9_lets_3 (by decide) ?_
    refine x_icmp_ge (tgt := 26) dX9_lets_5 (by decide) (fun c_5 => ?_) (fun c_5 => (absurd (by decide) c_5))
    exact hk W hW hO
  | succ j ih =>
    intro k W hk0 hW hO
    have hkn : k < 18 := by omega
    have es : sw σ0 85 W 91 (0 + k) = σ0 91 (0 + k) := rfl
    refine x_iload_n dX9_lets_2 rfl ?_
    refine x_bipush (v := 18) dX9_lets_3 (by decide) ?_
    refine x_icmp_ge (tgt := 26) dX9_lets_5 (by decide) (fun c_5 => (absurd c_5 (show ¬ nI 18 ≤ nI k from nI_ge hkn (by omega)))) (fun c_5 => ?_)
    refine x_aload_n dX9_lets_8 rfl ?_
    refine s_getr (ci := 9) (k := 4) (N := 20) (C := RX9) (T := TX9) dX9_lets_9 lfX9_19 inX9 rfl (by decide) (rfl) rfl ?_
    refine x_iload_n dX9_lets_12 rfl ?_
    refine x_aload_n dX9_lets_13 rfl ?_
    refine s_getr (ci := 9) (k := 19) (N := 20) (C := RX9) (T := TX9) dX9_lets_14 lfX9_42 inX9 rfl (by decide) (rfl) rfl ?_
    refine x_iload_n dX9_lets_17 rfl ?_
    refine s_iald dX9_lets_18 (rfl) (hi := rfl) (hj := by omega) (hn := by decide) ?_
    refine s_iast dX9_lets_19 (rfl) (hi := rfl) (hj := by omega) (hn := by decide) ?_
    refine s_iinc dX9_lets_20 rfl (Nat.le_of_ble_eq_true rfl) rfl ?_
    refine x_goto (tgt := 2) dX9_lets_23 (by decide) ?_
    rw [sg_def _ 85, sw_sw, sw_s]
    refine ih (k + 1) _ (by omega) (fun i hi => ?_) (fun i hi => ?_)
    · unfold upd
      by_cases e : i = k
      · rw [if_pos (by omega), e]
        first | exact es | (simp only [Nat.zero_add] at es ⊢; exact es)
      · rw [if_neg (by omega)]
        exact hW i (by omega)
    · unfold upd
      rw [if_neg (by omega)]
      exact hO i (by omega)

set_option maxRecDepth 100000 in
theorem l_keepsA {d : Nat} {R : Option Value → xM → Prop} (σ0 : Sg)  (hk : ∀ W : FN, (∀ i, i < 126 → W (0 + i) = σ0 86 (18 + i)) → (∀ i, ¬ (0 ≤ i ∧ i < 0 + 126) → W i = σ0 86 i) → Ex (YX9_keeps, d, xB0, none) 38 [.ref 81, .int (nI 126)] [] (xMs (sw σ0 86 W)) R) : ∀ (j k : Nat) (W : FN), k + j = 126 → (∀ i, i < k → W (0 + i) = σ0 86 (18 + i)) → (∀ i, ¬ (0 ≤ i ∧ i < 0 + k) → W i = σ0 86 i) →
    Ex (YX9_keeps, d, xB0, none) 11 [.ref 81, .int (nI k)] [] (xMs (sw σ0 86 W)) R := by
  intro j
  induction j with
  | zero =>
    intro k W hk0 hW hO
    have hk1 : k = 126 := by omega
    subst hk1
    refine x_iload_n dX9_keeps_11 rfl ?_
    refine x_bipush (v := 126) dX9_keeps_12 (by decide) ?_
    refine x_icmp_ge (tgt := 38) dX9_keeps_14 (by decide) (fun c_14 => ?_) (fun c_14 => (absurd (by decide) c_14))
    exact hk W hW hO
  | succ j ih =>
    intro k W hk0 hW hO
    have hkn : k < 126 := by omega
    have es : sw σ0 86 W 86 (18 + k) = σ0 86 (18 + k) := by rw [sw_s]; exact hO _ (by omega)
    refine x_iload_n dX9_keeps_11 rfl ?_
    refine x_bipush (v := 126) dX9_keeps_12 (by decide) ?_
    refine x_icmp_ge (tgt := 38) dX9_keeps_14 (by decide) (fun c_14 => (absurd c_14 (show ¬ nI 126 ≤ nI k from nI_ge hkn (by omega)))) (fun c_14 => ?_)
    refine x_aload_n dX9_keeps_17 rfl ?_
    refine s_getr (ci := 9) (k := 5) (N := 20) (C := RX9) (T := TX9) dX9_keeps_18 lfX9_22 inX9 rfl (by decide) (rfl) rfl ?_
    refine x_iload_n dX9_keeps_21 rfl ?_
    refine x_aload_n dX9_keeps_22 rfl ?_
    refine s_getr (ci := 9) (k := 5) (N := 20) (C := RX9) (T := TX9) dX9_keeps_23 lfX9_22 inX9 rfl (by decide) (rfl) rfl ?_
    refine x_iload_n dX9_keeps_26 rfl ?_
    refine x_bipush (v := 18) dX9_keeps_27 (by decide) ?_
    refine x_iadd dX9_keeps_29 ?_
    refine s_iald dX9_keeps_30 (rfl) (hi := ((nI_add k 18).trans (congrArg nI (Nat.add_comm k 18)))) (hj := by omega) (hn := by decide) ?_
    refine s_iast dX9_keeps_31 (rfl) (hi := rfl) (hj := by omega) (hn := by decide) ?_
    refine s_iinc dX9_keeps_32 rfl (Nat.le_of_ble_eq_true rfl) rfl ?_
    refine x_goto (tgt := 11) dX9_keeps_35 (by decide) ?_
    rw [sg_def _ 86, sw_sw, sw_s]
    refine ih (k + 1) _ (by omega) (fun i hi => ?_) (fun i hi => ?_)
    · unfold upd
      by_cases e : i = k
      · rw [if_pos (by omega), e]
        first | exact es | (simp only [Nat.zero_add] at es ⊢; exact es)
      · rw [if_neg (by omega)]
        exact hW i (by omega)
    · unfold upd
      rw [if_neg (by omega)]
      exact hO i (by omega)

set_option maxRecDepth 100000 in
theorem l_keepsB {q d : Nat} {R : Option Value → xM → Prop} (σ0 : Sg) (h6 : σ0 81 6 = nI q) (hq : q < 8) (hk : ∀ W : FN, (∀ i, i < 18 → W (18 * q + i) = σ0 85 (0 + i)) → (∀ i, ¬ (18 * q ≤ i ∧ i < 18 * q + 18) → W i = σ0 86 i) → Ex (YX9_keeps, d, xB0, none) 82 [.ref 81, .int (nI 18)] [] (xMs (sw σ0 86 W)) R) : ∀ (j k : Nat) (W : FN), k + j = 18 → (∀ i, i < k → W (18 * q + i) = σ0 85 (0 + i)) → (∀ i, ¬ (18 * q ≤ i ∧ i < 18 * q + k) → W i = σ0 86 i) →
    Ex (YX9_keeps, d, xB0, none) 50 [.ref 81, .int (nI k)] [] (xMs (sw σ0 86 W)) R := by
  intro j
  induction j with
  | zero =>
    intro k W hk0 hW hO
    have hk1 : k = 18 := by omega
    subst hk1
    refine x_iload_n dX9_keeps_50 rfl ?_
    refine x_bipush (v := 18) dX9_keeps_51 (by decide) ?_
    refine x_icmp_ge (tgt := 82) dX9_keeps_53 (by decide) (fun c_53 => ?_) (fun c_53 => (absurd (by decide) c_53))
    exact hk W hW hO
  | succ j ih =>
    intro k W hk0 hW hO
    have hkn : k < 18 := by omega
    have h6 : (sw σ0 86 W) 81 6 = nI q := h6
    have hq : q < 8 := hq
    have es : sw σ0 86 W 85 (0 + k) = σ0 85 (0 + k) := rfl
    refine x_iload_n dX9_keeps_50 rfl ?_
    refine x_bipush (v := 18) dX9_keeps_51 (by decide) ?_
    refine x_icmp_ge (tgt := 82) dX9_keeps_53 (by decide) (fun c_53 => (absurd c_53 (show ¬ nI 18 ≤ nI k from nI_ge hkn (by omega)))) (fun c_53 => ?_)
    refine x_aload_n dX9_keeps_56 rfl ?_
    refine s_getr (ci := 9) (k := 5) (N := 20) (C := RX9) (T := TX9) dX9_keeps_57 lfX9_22 inX9 rfl (by decide) (rfl) rfl ?_
    refine x_bipush (v := 18) dX9_keeps_60 (by decide) ?_
    refine x_aload_n dX9_keeps_62 rfl ?_
    refine s_geti (ci := 9) (k := 6) (N := 20) (C := RX9) (T := TX9) dX9_keeps_63 lfX9_101 inX9 rfl (by decide) (rfl) rfl ?_
    rw [h6]
    refine x_imul dX9_keeps_66 ?_
    refine x_iload_n dX9_keeps_67 rfl ?_
    refine x_iadd dX9_keeps_68 ?_
    refine x_aload_n dX9_keeps_69 rfl ?_
    refine s_getr (ci := 9) (k := 4) (N := 20) (C := RX9) (T := TX9) dX9_keeps_70 lfX9_19 inX9 rfl (by decide) (rfl) rfl ?_
    refine x_iload_n dX9_keeps_73 rfl ?_
    refine s_iald dX9_keeps_74 (rfl) (hi := rfl) (hj := by omega) (hn := by decide) ?_
    refine s_iast dX9_keeps_75 (rfl) (hi := i_row q k) (hj := by omega) (hn := by decide) ?_
    refine s_iinc dX9_keeps_76 rfl (Nat.le_of_ble_eq_true rfl) rfl ?_
    refine x_goto (tgt := 50) dX9_keeps_79 (by decide) ?_
    rw [sg_def _ 86, sw_sw, sw_s]
    refine ih (k + 1) _ (by omega) (fun i hi => ?_) (fun i hi => ?_)
    · unfold upd
      by_cases e : i = k
      · rw [if_pos (by omega), e]
        first | exact es | (simp only [Nat.zero_add] at es ⊢; exact es)
      · rw [if_neg (by omega)]
        exact hW i (by omega)
    · unfold upd
      rw [if_neg (by omega)]
      exact hO i (by omega)

set_option maxRecDepth 100000 in
theorem l_mundo {q d : Nat} {R : Option Value → xM → Prop} (σ0 : Sg) (h6 : σ0 81 6 = nI q) (hq : q < 8) (hk : ∀ W : FN, (∀ i, i < 18 → W (0 + i) = σ0 86 (18 * q + i)) → (∀ i, ¬ (0 ≤ i ∧ i < 0 + 18) → W i = σ0 85 i) → Ex (YX9_undo, d, xB0, none) 54 [.ref 81, .int (nI 18)] [] (xMs (sw σ0 85 W)) R) : ∀ (j k : Nat) (W : FN), k + j = 18 → (∀ i, i < k → W (0 + i) = σ0 86 (18 * q + i)) → (∀ i, ¬ (0 ≤ i ∧ i < 0 + k) → W i = σ0 85 i) →
    Ex (YX9_undo, d, xB0, none) 22 [.ref 81, .int (nI k)] [] (xMs (sw σ0 85 W)) R := by
  intro j
  induction j with
  | zero =>
    intro k W hk0 hW hO
    have hk1 : k = 18 := by omega
    subst hk1
    refine x_iload_n dX9_undo_22 rfl ?_
    refine x_bipush (v := 18) dX9_undo_23 (by decide) ?_
    refine x_icmp_ge (tgt := 54) dX9_undo_25 (by decide) (fun c_25 => ?_) (fun c_25 => (absurd (by decide) c_25))
    exact hk W hW hO
  | succ j ih =>
    intro k W hk0 hW hO
    have hkn : k < 18 := by omega
    have h6 : (sw σ0 85 W) 81 6 = nI q := h6
    have hq : q < 8 := hq
    have es : sw σ0 85 W 86 (18 * q + k) = σ0 86 (18 * q + k) := rfl
    refine x_iload_n dX9_undo_22 rfl ?_
    refine x_bipush (v := 18) dX9_undo_23 (by decide) ?_
    refine x_icmp_ge (tgt := 54) dX9_undo_25 (by decide) (fun c_25 => (absurd c_25 (show ¬ nI 18 ≤ nI k from nI_ge hkn (by omega)))) (fun c_25 => ?_)
    refine x_aload_n dX9_undo_28 rfl ?_
    refine s_getr (ci := 9) (k := 4) (N := 20) (C := RX9) (T := TX9) dX9_undo_29 lfX9_19 inX9 rfl (by decide) (rfl) rfl ?_
    refine x_iload_n dX9_undo_32 rfl ?_
    refine x_aload_n dX9_undo_33 rfl ?_
    refine s_getr (ci := 9) (k := 5) (N := 20) (C := RX9) (T := TX9) dX9_undo_34 lfX9_22 inX9 rfl (by decide) (rfl) rfl ?_
    refine x_bipush (v := 18) dX9_undo_37 (by decide) ?_
    refine x_aload_n dX9_undo_39 rfl ?_
    refine s_geti (ci := 9) (k := 6) (N := 20) (C := RX9) (T := TX9) dX9_undo_40 lfX9_101 inX9 rfl (by decide) (rfl) rfl ?_
    rw [h6]
    refine x_imul dX9_undo_43 ?_
    refine x_iload_n dX9_undo_44 rfl ?_
    refine x_iadd dX9_undo_45 ?_
    refine s_iald dX9_undo_46 (rfl) (hi := i_row q k) (hj := by omega) (hn := by decide) ?_
    refine s_iast dX9_undo_47 (rfl) (hi := rfl) (hj := by omega) (hn := by decide) ?_
    refine s_iinc dX9_undo_48 rfl (Nat.le_of_ble_eq_true rfl) rfl ?_
    refine x_goto (tgt := 22) dX9_undo_51 (by decide) ?_
    rw [sg_def _ 85, sw_sw, sw_s]
    refine ih (k + 1) _ (by omega) (fun i hi => ?_) (fun i hi => ?_)
    · unfold upd
      by_cases e : i = k
      · rw [if_pos (by omega), e]
        first | exact es | (simp only [Nat.zero_add] at es ⊢; exact es)
      · rw [if_neg (by omega)]
        exact hW i (by omega)
    · unfold upd
      rw [if_neg (by omega)]
      exact hO i (by omega)

set_option maxRecDepth 100000 in
theorem l_mkeep {a d : Nat} {R : Option Value → xM → Prop} (σ0 : Sg) (ha : a < 2) (hk : ∀ W : FN, (∀ i, i < 18 → W (18 * a + i) = σ0 85 (0 + i)) → (∀ i, ¬ (18 * a ≤ i ∧ i < 18 * a + 18) → W i = σ0 87 i) → Ex (YX9_keep, d, xB0, none) 43 [.ref 81, .int (nI a), .int (nI 18)] [] (xMs (sw σ0 87 W)) R) : ∀ (j k : Nat) (W : FN), k + j = 18 → (∀ i, i < k → W (18 * a + i) = σ0 85 (0 + i)) → (∀ i, ¬ (18 * a ≤ i ∧ i < 18 * a + k) → W i = σ0 87 i) →
    Ex (YX9_keep, d, xB0, none) 14 [.ref 81, .int (nI a), .int (nI k)] [] (xMs (sw σ0 87 W)) R := by
  intro j
  induction j with
  | zero =>
    intro k W hk0 hW hO
    have hk1 : k = 18 := by omega
    subst hk1
    refine x_iload_n dX9_keep_14 rfl ?_
    refine x_bipush (v := 18) dX9_keep_15 (by decide) ?_
    refine x_icmp_ge (tgt := 43) dX9_keep_17 (by decide) (fun c_17 => ?_) (fun c_17 => (absurd (by decide) c_17))
    exact hk W hW hO
  | succ j ih =>
    intro k W hk0 hW hO
    have hkn : k < 18 := by omega
    have ha : a < 2 := ha
    have es : sw σ0 87 W 85 (0 + k) = σ0 85 (0 + k) := rfl
    refine x_iload_n dX9_keep_14 rfl ?_
    refine x_bipush (v := 18) dX9_keep_15 (by decide) ?_
    refine x_icmp_ge (tgt := 43) dX9_keep_17 (by decide) (fun c_17 => (absurd c_17 (show ¬ nI 18 ≤ nI k from nI_ge hkn (by omega)))) (fun c_17 => ?_)
    refine x_aload_n dX9_keep_20 rfl ?_
    refine s_getr (ci := 9) (k := 7) (N := 20) (C := RX9) (T := TX9) dX9_keep_21 lfX9_25 inX9 rfl (by decide) (rfl) rfl ?_
    refine x_bipush (v := 18) dX9_keep_24 (by decide) ?_
    refine x_iload_n dX9_keep_26 rfl ?_
    refine x_imul dX9_keep_27 ?_
    refine x_iload_n dX9_keep_28 rfl ?_
    refine x_iadd dX9_keep_29 ?_
    refine x_aload_n dX9_keep_30 rfl ?_
    refine s_getr (ci := 9) (k := 4) (N := 20) (C := RX9) (T := TX9) dX9_keep_31 lfX9_19 inX9 rfl (by decide) (rfl) rfl ?_
    refine x_iload_n dX9_keep_34 rfl ?_
    refine s_iald dX9_keep_35 (rfl) (hi := rfl) (hj := by omega) (hn := by decide) ?_
    refine s_iast dX9_keep_36 (rfl) (hi := i_row a k) (hj := by omega) (hn := by decide) ?_
    refine s_iinc dX9_keep_37 rfl (Nat.le_of_ble_eq_true rfl) rfl ?_
    refine x_goto (tgt := 14) dX9_keep_40 (by decide) ?_
    rw [sg_def _ 87, sw_sw, sw_s]
    refine ih (k + 1) _ (by omega) (fun i hi => ?_) (fun i hi => ?_)
    · unfold upd
      by_cases e : i = k
      · rw [if_pos (by omega), e]
        first | exact es | (simp only [Nat.zero_add] at es ⊢; exact es)
      · rw [if_neg (by omega)]
        exact hW i (by omega)
    · unfold upd
      rw [if_neg (by omega)]
      exact hO i (by omega)

set_option maxRecDepth 100000 in
theorem l_mback {a d : Nat} {R : Option Value → xM → Prop} (σ0 : Sg) (ha : a < 2) (hk : ∀ W : FN, (∀ i, i < 18 → W (0 + i) = σ0 87 (18 * a + i)) → (∀ i, ¬ (0 ≤ i ∧ i < 0 + 18) → W i = σ0 85 i) → Ex (YX9_back, d, xB0, none) 55 [.ref 81, .int (nI a), .int (nI 18)] [] (xMs (sw σ0 85 W)) R) : ∀ (j k : Nat) (W : FN), k + j = 18 → (∀ i, i < k → W (0 + i) = σ0 87 (18 * a + i)) → (∀ i, ¬ (0 ≤ i ∧ i < 0 + k) → W i = σ0 85 i) →
    Ex (YX9_back, d, xB0, none) 26 [.ref 81, .int (nI a), .int (nI k)] [] (xMs (sw σ0 85 W)) R := by
  intro j
  induction j with
  | zero =>
    intro k W hk0 hW hO
    have hk1 : k = 18 := by omega
    subst hk1
    refine x_iload_n dX9_back_26 rfl ?_
    refine x_bipush (v := 18) dX9_back_27 (by decide) ?_
    refine x_icmp_ge (tgt := 55) dX9_back_29 (by decide) (fun c_29 => ?_) (fun c_29 => (absurd (by decide) c_29))
    exact hk W hW hO
  | succ j ih =>
    intro k W hk0 hW hO
    have hkn : k < 18 := by omega
    have ha : a < 2 := ha
    have es : sw σ0 85 W 87 (18 * a + k) = σ0 87 (18 * a + k) := rfl
    refine x_iload_n dX9_back_26 rfl ?_
    refine x_bipush (v := 18) dX9_back_27 (by decide) ?_
    refine x_icmp_ge (tgt := 55) dX9_back_29 (by decide) (fun c_29 => (absurd c_29 (show ¬ nI 18 ≤ nI k from nI_ge hkn (by omega)))) (fun c_29 => ?_)
    refine x_aload_n dX9_back_32 rfl ?_
    refine s_getr (ci := 9) (k := 4) (N := 20) (C := RX9) (T := TX9) dX9_back_33 lfX9_19 inX9 rfl (by decide) (rfl) rfl ?_
    refine x_iload_n dX9_back_36 rfl ?_
    refine x_aload_n dX9_back_37 rfl ?_
    refine s_getr (ci := 9) (k := 7) (N := 20) (C := RX9) (T := TX9) dX9_back_38 lfX9_25 inX9 rfl (by decide) (rfl) rfl ?_
    refine x_bipush (v := 18) dX9_back_41 (by decide) ?_
    refine x_iload_n dX9_back_43 rfl ?_
    refine x_imul dX9_back_44 ?_
    refine x_iload_n dX9_back_45 rfl ?_
    refine x_iadd dX9_back_46 ?_
    refine s_iald dX9_back_47 (rfl) (hi := i_row a k) (hj := by omega) (hn := by decide) ?_
    refine s_iast dX9_back_48 (rfl) (hi := rfl) (hj := by omega) (hn := by decide) ?_
    refine s_iinc dX9_back_49 rfl (Nat.le_of_ble_eq_true rfl) rfl ?_
    refine x_goto (tgt := 26) dX9_back_52 (by decide) ?_
    rw [sg_def _ 85, sw_sw, sw_s]
    refine ih (k + 1) _ (by omega) (fun i hi => ?_) (fun i hi => ?_)
    · unfold upd
      by_cases e : i = k
      · rw [if_pos (by omega), e]
        first | exact es | (simp only [Nat.zero_add] at es ⊢; exact es)
      · rw [if_neg (by omega)]
        exact hW i (by omega)
    · unfold upd
      rw [if_neg (by omega)]
      exact hO i (by omega)

set_option maxRecDepth 100000 in
theorem k_holds (σ : Sg) : Cm 0 YX9_holds [.ref 81] σ (fun v σ' => v = none ∧ ∃ W, (∀ i, i < 18 → W i = σ 85 i) ∧ σ' = sw σ 91 W) := by
  refine Cm_of (by decide +kernel) (Nat.le_of_ble_eq_true rfl) ?_
  refine x_iconst (v := 0) dX9_holds_0 (by decide) ?_
  refine x_istore_n dX9_holds_1 (Nat.le_of_ble_eq_true rfl) rfl ?_
  have h := l_mholds (d := 0) (R := xQ (fun v σ' => v = none ∧ ∃ W, (∀ i, i < 18 → W i = σ 85 i) ∧ σ' = sw σ 91 W)) σ (fun W hW _ => ?_) 18 0 (σ 91) (by omega) (fun i hi => by omega) (fun i _ => rfl)
  · rw [sw_id] at h
    exact h
  · simp only [Nat.zero_add] at hW
    exact s_ret dX9_holds_26 rfl (⟨rfl, W, hW, rfl⟩)
set_option maxRecDepth 100000 in
theorem k_lets (σ : Sg) : Cm 0 YX9_lets [.ref 81] σ (fun v σ' => v = none ∧ ∃ W, (∀ i, i < 18 → W i = σ 91 i) ∧ σ' = sw σ 85 W) := by
  refine Cm_of (by decide +kernel) (Nat.le_of_ble_eq_true rfl) ?_
  refine x_iconst (v := 0) dX9_lets_0 (by decide) ?_
  refine x_istore_n dX9_lets_1 (Nat.le_of_ble_eq_true rfl) rfl ?_
  have h := l_mlets (d := 0) (R := xQ (fun v σ' => v = none ∧ ∃ W, (∀ i, i < 18 → W i = σ 91 i) ∧ σ' = sw σ 85 W)) σ (fun W hW _ => ?_) 18 0 (σ 85) (by omega) (fun i hi => by omega) (fun i _ => rfl)
  · rw [sw_id] at h
    exact h
  · simp only [Nat.zero_add] at hW
    exact s_ret dX9_lets_26 rfl (⟨rfl, W, hW, rfl⟩)
/-- after keeps: q before -/
def kpP (q : Nat) (σ σ' : Sg) : Prop := σ' 81 6 = nI (min (q + 1) 8) ∧ (∀ r i, i < 18 → r < min (q + 1) 8 → σ' 86 (18 * r + i) = if r + 1 = min (q + 1) 8 then σ 85 i else if q = 8 then σ 86 (18 * (r + 1) + i) else σ 86 (18 * r + i)) ∧ (∀ i, i ≠ 6 → σ' 81 i = σ 81 i) ∧ ∀ c, c ≠ 81 → c ≠ 86 → σ' c = σ c
set_option maxRecDepth 100000 in
theorem k_keeps (σ : Sg) {q : Nat} (h6 : σ 81 6 = nI q) (hq : q ≤ 8) : Cm 0 YX9_keeps [.ref 81] σ (fun v σ' => v = none ∧ kpP q σ σ') := by
  refine Cm_of (by decide +kernel) (Nat.le_of_ble_eq_true rfl) ?_
  have tail : ∀ (q' : Nat) (σ1 : Sg) (V1 : Value), q' < 8 → σ1 81 6 = nI q' → q' + 1 = min (q + 1) 8 → (∀ r i, i < 18 → r < q' → σ1 86 (18 * r + i) = if q = 8 then σ 86 (18 * (r + 1) + i) else σ 86 (18 * r + i)) → (∀ i, i ≠ 6 → σ1 81 i = σ 81 i) → (∀ c, c ≠ 81 → c ≠ 86 → σ1 c = σ c) → Ex (YX9_keeps, 0, xB0, none) 48 [.ref 81, V1] [] (xMs σ1) (xQ (fun v σ' => v = none ∧ kpP q σ σ')) := by
    intro q' σ1 V1 hq' g1 g2 g3 g4 g5
    refine x_iconst (v := 0) dX9_keeps_48 (by decide) ?_
    refine x_istore_n dX9_keeps_49 (Nat.le_of_ble_eq_true rfl) rfl ?_
    have h := l_keepsB (d := 0) (q := q') (R := xQ (fun v σ' => v = none ∧ kpP q σ σ')) σ1 g1 hq' (fun W hW hO => ?_) 18 0 (σ1 86) (by omega) (fun i hi => by omega) (fun i _ => rfl)
    · rw [sw_id] at h
      exact h
    · simp only [Nat.zero_add] at hW
      have g1 : (sw σ1 86 W) 81 6 = nI q' := g1
      refine x_aload_n dX9_keeps_82 rfl ?_
      refine x_dup dX9_keeps_83 rfl ?_
      refine s_geti (ci := 9) (k := 6) (N := 20) (C := RX9) (T := TX9) dX9_keeps_84 lfX9_101 inX9 rfl (by decide) (rfl) rfl ?_
      refine x_iconst (v := 1) dX9_keeps_87 (by decide) ?_
      refine x_iadd dX9_keeps_88 ?_
      rw [g1, nI_1]
      refine s_puti (ci := 9) (k := 6) (N := 20) (C := RX9) (T := TX9) (ty0 := tyX9) dX9_keeps_89 lfX9_101 inX9 tyX9_ok nmX9 rfl (by decide) rfl rfl (rfl) rfl ?_
      refine xname (fun σ_89 e_89 => ?_)
      refine s_ret dX9_keeps_92 rfl ?_
      refine ⟨rfl, by rw [e_89, sg_s, g2], fun r i hi hr => ?_, fun i hi => by rw [e_89, sg_k _ _ _ hi]; exact g4 i hi, fun c h1 h2 => by rw [e_89, sg_n _ _ _ h1, sw_n _ _ h2]; exact g5 c h1 h2⟩
      rw [e_89, sg_n _ _ _ (by decide), sw_s]
      by_cases e : r + 1 = min (q + 1) 8
      · have e2 : r = q' := by omega
        rw [if_pos e, e2, hW i hi]
        exact congrFun (g5 85 (by decide) (by decide)) i
      · rw [if_neg e, hO _ (by omega)]
        exact g3 r i hi (by omega)
  refine x_aload_n dX9_keeps_0 rfl ?_
  refine s_geti (ci := 9) (k := 6) (N := 20) (C := RX9) (T := TX9) dX9_keeps_1 lfX9_101 inX9 rfl (by decide) (rfl) rfl ?_
  refine x_bipush (v := 8) dX9_keeps_4 (by decide) ?_
  refine x_icmp_ne (tgt := 48) dX9_keeps_6 (by decide) (fun c_6 => ?_) (fun c_6 => ?_)
  · have hq7 : q ≠ 8 := fun e => c_6 (by rw [h6, e]; rfl)
    exact tail q σ _ (by omega) h6 (by omega) (fun r i _ _ => by rw [if_neg hq7]) (fun _ _ => rfl) (fun _ _ _ => rfl)
  · refine x_iconst (v := 0) dX9_keeps_9 (by decide) ?_
    refine x_istore_n dX9_keeps_10 (Nat.le_of_ble_eq_true rfl) rfl ?_
    have hq8 : q = 8 := by
      rw [h6] at c_6
      exact (nI_eq (by omega) (by decide)).mp c_6
    have h := l_keepsA (d := 0) (R := xQ (fun v σ' => v = none ∧ kpP q σ σ')) σ (fun W hW hO => ?_) 126 0 (σ 86) (by omega) (fun i hi => by omega) (fun i _ => rfl)
    · rw [sw_id] at h
      exact h
    · simp only [Nat.zero_add] at hW
      have g1 : (sw σ 86 W) 81 6 = nI 8 := by rw [← hq8]; exact h6
      refine x_aload_n dX9_keeps_38 rfl ?_
      refine x_dup dX9_keeps_39 rfl ?_
      refine s_geti (ci := 9) (k := 6) (N := 20) (C := RX9) (T := TX9) dX9_keeps_40 lfX9_101 inX9 rfl (by decide) (rfl) rfl ?_
      refine x_iconst (v := 1) dX9_keeps_43 (by decide) ?_
      refine x_isub dX9_keeps_44 ?_
      rw [g1]
      refine s_puti (ci := 9) (k := 6) (N := 20) (C := RX9) (T := TX9) (ty0 := tyX9) dX9_keeps_45 lfX9_101 inX9 tyX9_ok nmX9 rfl (by decide) rfl rfl (rfl) rfl ?_
      refine xname (fun σ_45 e_45 => ?_)
      refine tail 7 σ_45 _ (by omega) (by rw [e_45, sg_s]; decide) (by omega) (fun r i hi hr => ?_) (fun i hi => by rw [e_45, sg_k _ _ _ hi, sw_n _ _ (by decide)]) (fun c h1 h2 => by rw [e_45, sg_n _ _ _ h1, sw_n _ _ h2])
      rw [if_pos hq8, e_45, sg_n _ _ _ (by decide), sw_s, hW _ (by omega)]
      congr 1
      omega
set_option maxRecDepth 100000 in
theorem k_mundo0 (σ : Sg) (h6 : σ 81 6 = nI 0) : Cm 12 YX9_undo [.ref 81] σ (fun v σ' => v = some (.int (-4)) ∧ σ' = σ) := by
  refine Cm_of (by decide +kernel) (Nat.le_of_ble_eq_true rfl) ?_
  refine x_aload_n dX9_undo_0 rfl ?_
  refine s_geti (ci := 9) (k := 6) (N := 20) (C := RX9) (T := TX9) dX9_undo_1 lfX9_101 inX9 rfl (by decide) (rfl) rfl ?_
  refine x_if_ne (tgt := 10) dX9_undo_4 (by decide) (fun c_4 => (absurd h6 c_4)) (fun c_4 => ?_)
  refine x_bipush (v := -4) dX9_undo_7 (by decide) ?_
  exact s_iret dX9_undo_9 rfl (⟨rfl, rfl⟩)
set_option maxRecDepth 100000 in
theorem k_mundo (σ : Sg) {q : Nat} (h6 : σ 81 6 = nI (q + 1)) (hq : q < 8) : Cm 12 YX9_undo [.ref 81] σ (fun v σ' => v = some (.int (nI q)) ∧ ∃ W, (∀ i, i < 18 → W i = σ 86 (18 * q + i)) ∧ σ' = sw (sg σ 81 6 (nI q)) 85 W) := by
  refine Cm_of (by decide +kernel) (Nat.le_of_ble_eq_true rfl) ?_
  refine x_aload_n dX9_undo_0 rfl ?_
  refine s_geti (ci := 9) (k := 6) (N := 20) (C := RX9) (T := TX9) dX9_undo_1 lfX9_101 inX9 rfl (by decide) (rfl) rfl ?_
  refine x_if_ne (tgt := 10) dX9_undo_4 (by decide) (fun c_4 => ?_) (fun c_4 => (absurd (h6.symm.trans c_4) (nI_ne0 (by omega) (by omega))))
  refine x_aload_n dX9_undo_10 rfl ?_
  refine x_dup dX9_undo_11 rfl ?_
  refine s_geti (ci := 9) (k := 6) (N := 20) (C := RX9) (T := TX9) dX9_undo_12 lfX9_101 inX9 rfl (by decide) (rfl) rfl ?_
  refine x_iconst (v := 1) dX9_undo_15 (by decide) ?_
  refine x_isub dX9_undo_16 ?_
  rw [h6, show nI (q + 1) - 1 = nI q from nI_pred q]
  refine s_puti (ci := 9) (k := 6) (N := 20) (C := RX9) (T := TX9) (ty0 := tyX9) dX9_undo_17 lfX9_101 inX9 tyX9_ok nmX9 rfl (by decide) rfl rfl (rfl) rfl ?_
  refine x_iconst (v := 0) dX9_undo_20 (by decide) ?_
  refine x_istore_n dX9_undo_21 (Nat.le_of_ble_eq_true rfl) rfl ?_
  have h := l_mundo (d := 12) (q := q) (R := xQ (fun v σ' => v = some (.int (nI q)) ∧ ∃ W, (∀ i, i < 18 → W i = σ 86 (18 * q + i)) ∧ σ' = sw (sg σ 81 6 (nI q)) 85 W)) (sg σ 81 6 (nI q)) (sg_s _ _ _ _) hq (fun W hW hO => ?_) 18 0 (sg σ 81 6 (nI q) 85) (by omega) (fun i hi => by omega) (fun i _ => rfl)
  · rw [sw_id] at h
    exact h
  · simp only [Nat.zero_add] at hW
    have g1 : (sw (sg σ 81 6 (nI q)) 85 W) 81 6 = nI q := by rw [sw_n _ _ (by decide), sg_s]
    refine x_aload_n dX9_undo_54 rfl ?_
    refine s_geti (ci := 9) (k := 6) (N := 20) (C := RX9) (T := TX9) dX9_undo_55 lfX9_101 inX9 rfl (by decide) (rfl) rfl ?_
    exact s_iret dX9_undo_58 rfl (⟨by rw [g1], W, fun i hi => by rw [hW i hi, sg_n _ _ _ (by decide)], rfl⟩)
set_option maxRecDepth 100000 in
theorem k_mkeep_o (σ : Sg) (s : Int32) (h : rgF 0 1 s = false) : Cm 12 YX9_keep [.ref 81, .int s] σ (fun v σ' => v = some (.int (-2)) ∧ σ' = σ) := by
  refine Cm_of (by decide +kernel) (Nat.le_of_ble_eq_true rfl) ?_
  refine x_iload_n dX9_keep_0 rfl ?_
  refine x_iconst (v := 0) dX9_keep_1 (by decide) ?_
  refine x_iconst (v := 1) dX9_keep_2 (by decide) ?_
  refine s_callS dX9_keep_3 (k_in σ _ _ _) rfl w_X9_in lmX9_51 st_X9_in rfl (Nat.le_of_ble_eq_true rfl) rfl (by decide) (fun v_3 σ_3 h_3 => ?_)
  obtain ⟨rfl, z_3⟩ := h_3
  have z_3 := z_3.symm
  subst z_3
  refine x_if_ne (tgt := 12) dX9_keep_6 (by decide) (fun c_6 => (absurd (by rw [h]; rfl) c_6)) (fun c_6 => ?_)
  refine x_bipush (v := -2) dX9_keep_9 (by decide) ?_
  exact s_iret dX9_keep_11 rfl (⟨rfl, rfl⟩)
set_option maxRecDepth 100000 in
theorem k_mkeep (σ : Sg) {a : Nat} (ha : a < 2) : Cm 12 YX9_keep [.ref 81, .int (nI a)] σ (fun v σ' => v = some (.int (σ 85 16)) ∧ ∃ W, (∀ i, i < 18 → W (18 * a + i) = σ 85 i) ∧ (∀ i, ¬ (18 * a ≤ i ∧ i < 18 * a + 18) → W i = σ 87 i) ∧ σ' = sg (sw σ 87 W) 88 a 1) := by
  refine Cm_of (by decide +kernel) (Nat.le_of_ble_eq_true rfl) ?_
  refine x_iload_n dX9_keep_0 rfl ?_
  refine x_iconst (v := 0) dX9_keep_1 (by decide) ?_
  refine x_iconst (v := 1) dX9_keep_2 (by decide) ?_
  refine s_callS dX9_keep_3 (k_in σ _ _ _) rfl w_X9_in lmX9_51 st_X9_in rfl (Nat.le_of_ble_eq_true rfl) rfl (by decide) (fun v_3 σ_3 h_3 => ?_)
  obtain ⟨rfl, z_3⟩ := h_3
  have z_3 := z_3.symm
  subst z_3
  refine x_if_ne (tgt := 12) dX9_keep_6 (by decide) (fun c_6 => ?_) (fun c_6 => (absurd c_6 (by rw [show rgF 0 1 (nI a) = true from rgF_i (a := 0) (b := 1) (by omega) (by omega) (by decide)]; decide)))
  refine x_iconst (v := 0) dX9_keep_12 (by decide) ?_
  refine x_istore_n dX9_keep_13 (Nat.le_of_ble_eq_true rfl) rfl ?_
  have h := l_mkeep (d := 12) (a := a) (R := xQ (fun v σ' => v = some (.int (σ 85 16)) ∧ ∃ W, (∀ i, i < 18 → W (18 * a + i) = σ 85 i) ∧ (∀ i, ¬ (18 * a ≤ i ∧ i < 18 * a + 18) → W i = σ 87 i) ∧ σ' = sg (sw σ 87 W) 88 a 1)) σ ha (fun W hW hO => ?_) 18 0 (σ 87) (by omega) (fun i hi => by omega) (fun i _ => rfl)
  · rw [sw_id] at h
    exact h
  · simp only [Nat.zero_add] at hW
    refine x_aload_n dX9_keep_43 rfl ?_
    refine s_getr (ci := 9) (k := 8) (N := 20) (C := RX9) (T := TX9) dX9_keep_44 lfX9_28 inX9 rfl (by decide) (rfl) rfl ?_
    refine x_iload_n dX9_keep_47 rfl ?_
    refine x_iconst (v := 1) dX9_keep_48 (by decide) ?_
    refine s_zast dX9_keep_49 (rfl) (hi := rfl) (hj := by omega) (hn := by decide) ?_
    refine x_aload_n dX9_keep_50 rfl ?_
    refine s_getr (ci := 9) (k := 4) (N := 20) (C := RX9) (T := TX9) dX9_keep_51 lfX9_19 inX9 rfl (by decide) (rfl) rfl ?_
    refine x_bipush (v := 16) dX9_keep_54 (by decide) ?_
    refine s_iald dX9_keep_56 (rfl) (j := 16) (hi := by decide) (hj := by omega) (hn := by decide) ?_
    exact s_iret dX9_keep_57 rfl (⟨rfl, W, hW, hO, rfl⟩)
set_option maxRecDepth 100000 in
theorem k_mback_o (σ : Sg) (s : Int32) (h : rgF 0 1 s = false) : Cm 12 YX9_back [.ref 81, .int s] σ (fun v σ' => v = some (.int (-2)) ∧ σ' = σ) := by
  refine Cm_of (by decide +kernel) (Nat.le_of_ble_eq_true rfl) ?_
  refine x_iload_n dX9_back_0 rfl ?_
  refine x_iconst (v := 0) dX9_back_1 (by decide) ?_
  refine x_iconst (v := 1) dX9_back_2 (by decide) ?_
  refine s_callS dX9_back_3 (k_in σ _ _ _) rfl w_X9_in lmX9_51 st_X9_in rfl (Nat.le_of_ble_eq_true rfl) rfl (by decide) (fun v_3 σ_3 h_3 => ?_)
  obtain ⟨rfl, z_3⟩ := h_3
  have z_3 := z_3.symm
  subst z_3
  refine x_if_ne (tgt := 12) dX9_back_6 (by decide) (fun c_6 => (absurd (by rw [h]; rfl) c_6)) (fun c_6 => ?_)
  refine x_bipush (v := -2) dX9_back_9 (by decide) ?_
  exact s_iret dX9_back_11 rfl (⟨rfl, rfl⟩)
set_option maxRecDepth 100000 in
theorem k_mback0 (σ : Sg) {a : Nat} (ha : a < 2) (h0 : σ 88 a = 0) : Cm 12 YX9_back [.ref 81, .int (nI a)] σ (fun v σ' => v = some (.int (-4)) ∧ σ' = σ) := by
  refine Cm_of (by decide +kernel) (Nat.le_of_ble_eq_true rfl) ?_
  refine x_iload_n dX9_back_0 rfl ?_
  refine x_iconst (v := 0) dX9_back_1 (by decide) ?_
  refine x_iconst (v := 1) dX9_back_2 (by decide) ?_
  refine s_callS dX9_back_3 (k_in σ _ _ _) rfl w_X9_in lmX9_51 st_X9_in rfl (Nat.le_of_ble_eq_true rfl) rfl (by decide) (fun v_3 σ_3 h_3 => ?_)
  obtain ⟨rfl, z_3⟩ := h_3
  have z_3 := z_3.symm
  subst z_3
  refine x_if_ne (tgt := 12) dX9_back_6 (by decide) (fun c_6 => ?_) (fun c_6 => (absurd c_6 (by rw [show rgF 0 1 (nI a) = true from rgF_i (a := 0) (b := 1) (by omega) (by omega) (by decide)]; decide)))
  refine x_aload_n dX9_back_12 rfl ?_
  refine s_getr (ci := 9) (k := 8) (N := 20) (C := RX9) (T := TX9) dX9_back_13 lfX9_28 inX9 rfl (by decide) (rfl) rfl ?_
  refine x_iload_n dX9_back_16 rfl ?_
  refine s_zald dX9_back_17 (rfl) (hi := rfl) (hj := by omega) (hn := by decide) ?_
  refine x_if_ne (tgt := 24) dX9_back_18 (by decide) (fun c_18 => (absurd h0 c_18)) (fun c_18 => ?_)
  refine x_bipush (v := -4) dX9_back_21 (by decide) ?_
  exact s_iret dX9_back_23 rfl (⟨rfl, rfl⟩)
set_option maxRecDepth 100000 in
theorem k_mback (σ : Sg) {a : Nat} (ha : a < 2) (h0 : ¬ σ 88 a = 0) : Cm 12 YX9_back [.ref 81, .int (nI a)] σ (fun v σ' => v = some (.int (σ 87 (18 * a + 16))) ∧ ∃ W, (∀ i, i < 18 → W i = σ 87 (18 * a + i)) ∧ σ' = sg (sw σ 85 W) 81 6 0) := by
  refine Cm_of (by decide +kernel) (Nat.le_of_ble_eq_true rfl) ?_
  refine x_iload_n dX9_back_0 rfl ?_
  refine x_iconst (v := 0) dX9_back_1 (by decide) ?_
  refine x_iconst (v := 1) dX9_back_2 (by decide) ?_
  refine s_callS dX9_back_3 (k_in σ _ _ _) rfl w_X9_in lmX9_51 st_X9_in rfl (Nat.le_of_ble_eq_true rfl) rfl (by decide) (fun v_3 σ_3 h_3 => ?_)
  obtain ⟨rfl, z_3⟩ := h_3
  have z_3 := z_3.symm
  subst z_3
  refine x_if_ne (tgt := 12) dX9_back_6 (by decide) (fun c_6 => ?_) (fun c_6 => (absurd c_6 (by rw [show rgF 0 1 (nI a) = true from rgF_i (a := 0) (b := 1) (by omega) (by omega) (by decide)]; decide)))
  refine x_aload_n dX9_back_12 rfl ?_
  refine s_getr (ci := 9) (k := 8) (N := 20) (C := RX9) (T := TX9) dX9_back_13 lfX9_28 inX9 rfl (by decide) (rfl) rfl ?_
  refine x_iload_n dX9_back_16 rfl ?_
  refine s_zald dX9_back_17 (rfl) (hi := rfl) (hj := by omega) (hn := by decide) ?_
  refine x_if_ne (tgt := 24) dX9_back_18 (by decide) (fun c_18 => ?_) (fun c_18 => (absurd c_18 h0))
  refine x_iconst (v := 0) dX9_back_24 (by decide) ?_
  refine x_istore_n dX9_back_25 (Nat.le_of_ble_eq_true rfl) rfl ?_
  have h := l_mback (d := 12) (a := a) (R := xQ (fun v σ' => v = some (.int (σ 87 (18 * a + 16))) ∧ ∃ W, (∀ i, i < 18 → W i = σ 87 (18 * a + i)) ∧ σ' = sg (sw σ 85 W) 81 6 0)) σ ha (fun W hW hO => ?_) 18 0 (σ 85) (by omega) (fun i hi => by omega) (fun i _ => rfl)
  · rw [sw_id] at h
    exact h
  · simp only [Nat.zero_add] at hW
    refine x_aload_n dX9_back_55 rfl ?_
    refine x_iconst (v := 0) dX9_back_56 (by decide) ?_
    refine s_puti (ci := 9) (k := 6) (N := 20) (C := RX9) (T := TX9) (ty0 := tyX9) dX9_back_57 lfX9_101 inX9 tyX9_ok nmX9 rfl (by decide) rfl rfl (rfl) rfl ?_
    refine x_aload_n dX9_back_60 rfl ?_
    refine s_getr (ci := 9) (k := 4) (N := 20) (C := RX9) (T := TX9) dX9_back_61 lfX9_19 inX9 rfl (by decide) (rfl) rfl ?_
    refine x_bipush (v := 16) dX9_back_64 (by decide) ?_
    refine s_iald dX9_back_66 (rfl) (j := 16) (hi := by decide) (hj := by omega) (hn := by decide) ?_
    exact s_iret dX9_back_67 rfl (⟨by rw [sg_n _ _ _ (by decide), sw_s, hW 16 (by decide)], W, hW, rfl⟩)
