/-! ===== the count of bits; the rows of days ===== -/
/-- how many of the first k bits are set -/
def onF (a : Nat) : Nat → Nat
  | 0 => 0
  | k + 1 => onF a k + (if a.testBit k = true then 1 else 0)
theorem onF_le (a : Nat) : ∀ k, onF a k ≤ k := by
  intro k
  induction k with
  | zero => exact Nat.le_refl 0
  | succ k ih => unfold onF; split <;> omega
theorem xdd {a b mL : Nat} (h : a + 1 ≤ b) (hm : mL ≤ 40) : a + 1 ≤ b ∧ 8 + (mL + 11) + 64 * a ≤ 64 * b := by omega
set_option maxRecDepth 100000 in
theorem k_bitCount (σ : Sg) {a : Nat} (ha : a < 256) : Cm 0 YJ6_bitCount_0f7a4 [.int (nI a)] σ (fun v σ' => v = some (.int (nI (onF a 8))) ∧ σ' = σ) := by
  refine Cm_of (by decide +kernel) (Nat.le_of_ble_eq_true rfl) ?_
  refine x_iload_n dJ6_bitCount_0f7a4_0 rfl ?_
  refine x_iload_n dJ6_bitCount_0f7a4_1 rfl ?_
  refine x_iconst (v := 1) dJ6_bitCount_0f7a4_2 (by decide) ?_
  refine x_iushr dJ6_bitCount_0f7a4_3 rfl ?_
  refine x_ldcw dJ6_bitCount_0f7a4_4 kc_265 ?_
  refine x_iand dJ6_bitCount_0f7a4_7 ?_
  refine x_isub dJ6_bitCount_0f7a4_8 ?_
  refine x_istore_n dJ6_bitCount_0f7a4_9 (Nat.le_of_ble_eq_true rfl) rfl ?_
  refine x_iload_n dJ6_bitCount_0f7a4_10 rfl ?_
  refine x_ldcw dJ6_bitCount_0f7a4_11 kc_266 ?_
  refine x_iand dJ6_bitCount_0f7a4_14 ?_
  refine x_iload_n dJ6_bitCount_0f7a4_15 rfl ?_
  refine x_iconst (v := 2) dJ6_bitCount_0f7a4_16 (by decide) ?_
  refine x_iushr dJ6_bitCount_0f7a4_17 rfl ?_
  refine x_ldcw dJ6_bitCount_0f7a4_18 kc_266 ?_
  refine x_iand dJ6_bitCount_0f7a4_21 ?_
  refine x_iadd dJ6_bitCount_0f7a4_22 ?_
  refine x_istore_n dJ6_bitCount_0f7a4_23 (Nat.le_of_ble_eq_true rfl) rfl ?_
  refine x_iload_n dJ6_bitCount_0f7a4_24 rfl ?_
  refine x_iload_n dJ6_bitCount_0f7a4_25 rfl ?_
  refine x_iconst (v := 4) dJ6_bitCount_0f7a4_26 (by decide) ?_
  refine x_iushr dJ6_bitCount_0f7a4_27 rfl ?_
  refine x_iadd dJ6_bitCount_0f7a4_28 ?_
  refine x_ldcw dJ6_bitCount_0f7a4_29 kc_267 ?_
  refine x_iand dJ6_bitCount_0f7a4_32 ?_
  refine x_istore_n dJ6_bitCount_0f7a4_33 (Nat.le_of_ble_eq_true rfl) rfl ?_
  refine x_iload_n dJ6_bitCount_0f7a4_34 rfl ?_
  refine x_iload_n dJ6_bitCount_0f7a4_35 rfl ?_
  refine x_bipush (v := 8) dJ6_bitCount_0f7a4_36 (by decide) ?_
  refine x_iushr dJ6_bitCount_0f7a4_38 rfl ?_
  refine x_iadd dJ6_bitCount_0f7a4_39 ?_
  refine x_istore_n dJ6_bitCount_0f7a4_40 (Nat.le_of_ble_eq_true rfl) rfl ?_
  refine x_iload_n dJ6_bitCount_0f7a4_41 rfl ?_
  refine x_iload_n dJ6_bitCount_0f7a4_42 rfl ?_
  refine x_bipush (v := 16) dJ6_bitCount_0f7a4_43 (by decide) ?_
  refine x_iushr dJ6_bitCount_0f7a4_45 rfl ?_
  refine x_iadd dJ6_bitCount_0f7a4_46 ?_
  refine x_istore_n dJ6_bitCount_0f7a4_47 (Nat.le_of_ble_eq_true rfl) rfl ?_
  refine x_iload_n dJ6_bitCount_0f7a4_48 rfl ?_
  refine x_bipush (v := 63) dJ6_bitCount_0f7a4_49 (by decide) ?_
  refine x_iand dJ6_bitCount_0f7a4_51 ?_
  refine s_iret dJ6_bitCount_0f7a4_52 rfl ?_
  refine ⟨congrArg (fun z => some (Value.int z)) ?_, rfl⟩
  revert a
  decide +kernel
/-- how many streets have what they want -/
def ctF (p : PL) (o : MO) : Nat := onF (stF (saF o.1 p.2.2.2.1 p.2.2.2.2.1) p.1) 8
theorem stF_256 {p : Nat → Bool} {n : Nat} (h : n ≤ 8) : stF p n < 256 := Nat.lt_of_lt_of_le (stF_lt p n) (Nat.pow_le_pow_right (by decide) h : 2 ^ n ≤ 2 ^ 8)
set_option maxRecDepth 100000 in
theorem k_judge (σ : Sg) {n D : Nat} (hn : σ 3 5 = nI n) (hn8 : n ≤ 8) (hD : σ 62 3 = nI D) (hD4 : D ≤ 4) : Cm 3 YX4_judge [.ref 62, .ref 3] σ (fun v σ' => v = none ∧ σ' = if σ 62 4 < nI (ctF (plC n σ) (moC n σ (66 + 3 * D))) then sw (sg σ 62 4 (nI (ctF (plC n σ) (moC n σ (66 + 3 * D))))) 65 (cpN 4 (σ 64) (σ 65)) else σ) := by
  refine Cm_of (by decide +kernel) (Nat.le_of_ble_eq_true rfl) ?_
  have e : onF (stF (saF (tr n (σ (66 + 3 * D + 1))) (tr n (σ 4)) (tr n (σ 5))) n) 8 = ctF (plC n σ) (moC n σ (66 + 3 * D)) := rfl
  refine x_aload_n dX4_judge_0 rfl ?_
  refine s_getr (ci := 4) (k := 0) (N := 5) (C := RX4) (T := TX4) dX4_judge_1 lfX4_11 inX4 rfl (by decide) (rfl) rfl ?_
  refine x_aload_n dX4_judge_4 rfl ?_
  refine s_geti (ci := 4) (k := 3) (N := 5) (C := RX4) (T := TX4) dX4_judge_5 lfX4_24 inX4 rfl (by decide) (rfl) rfl ?_
  refine s_aald dX4_judge_8 (rfl) (b := 66 + 3 * D) (hi := hD) (hj := by omega) (hn := by decide) (be_at (by omega)) ?_
  refine x_aload_n dX4_judge_9 rfl ?_
  refine s_callV dX4_judge_10 (k_contentBits σ (mo_be (i := D) (by omega)) hn hn8) rfl w_X1_contentBits lmX4_59 im_X1_contentBits se_X1_contentBits rfl ((mo_be (i := D) (by omega)).1) rfl (Nat.le_of_ble_eq_true rfl) rfl (by decide) (fun v_10 σ_10 h_10 => ?_)
  obtain ⟨rfl, z_10⟩ := h_10
  have z_10 := z_10.symm
  subst z_10
  refine s_callS dX4_judge_13 (k_bitCount σ (stF_256 hn8)) rfl w_J6_bitCount_0f7a4 lmX4_63 st_J6_bitCount_0f7a4 rfl (Nat.le_of_ble_eq_true rfl) rfl (by decide) (fun v_13 σ_13 h_13 => ?_)
  obtain ⟨rfl, z_13⟩ := h_13
  have z_13 := z_13.symm
  subst z_13
  refine x_istore_n dX4_judge_16 (Nat.le_of_ble_eq_true rfl) rfl ?_
  refine x_iload_n dX4_judge_17 rfl ?_
  refine x_aload_n dX4_judge_18 rfl ?_
  refine s_geti (ci := 4) (k := 4) (N := 5) (C := RX4) (T := TX4) dX4_judge_19 lfX4_28 inX4 rfl (by decide) (rfl) rfl ?_
  refine x_icmp_le (tgt := 44) dX4_judge_22 (by decide) (fun c_22 => ?_) (fun c_22 => ?_)
  · exact s_ret dX4_judge_44 rfl (by first
      | exact ⟨rfl, (if_neg (Int32.not_lt.mpr c_22)).symm⟩
      | exact ⟨rfl, (if_pos (Int32.not_le.mp c_22)).symm⟩)
  · refine x_aload_n dX4_judge_25 rfl ?_
    refine x_iload_n dX4_judge_26 rfl ?_
    refine s_puti (ci := 4) (k := 4) (N := 5) (C := RX4) (T := TX4) (ty0 := tyX4) dX4_judge_27 lfX4_28 inX4 tyX4_ok nmX4 rfl (by decide) rfl rfl (rfl) rfl ?_
    refine x_aload_n dX4_judge_30 rfl ?_
    refine s_getr (ci := 4) (k := 1) (N := 5) (C := RX4) (T := TX4) dX4_judge_31 lfX4_17 inX4 rfl (by decide) (rfl) rfl ?_
    refine x_iconst (v := 0) dX4_judge_34 (by decide) ?_
    refine x_aload_n dX4_judge_35 rfl ?_
    refine s_getr (ci := 4) (k := 2) (N := 5) (C := RX4) (T := TX4) dX4_judge_36 lfX4_21 inX4 rfl (by decide) (rfl) rfl ?_
    refine x_iconst (v := 0) dX4_judge_39 (by decide) ?_
    refine x_iconst (v := 4) dX4_judge_40 (by decide) ?_
    refine s_copy (N := 4) dX4_judge_41 tmX4_69 (rfl) (rfl) (by decide) (by decide) (by decide) (by decide) (Nat.le_of_ble_eq_true rfl) (by decide) ?_
    exact s_ret dX4_judge_44 rfl (by first
      | exact ⟨rfl, (if_neg (Int32.not_lt.mpr c_22)).symm⟩
      | exact ⟨rfl, (if_pos (Int32.not_le.mp c_22)).symm⟩)
def fdF {S : Type} (g : Nat → S → S) : Nat → S → S
  | 0, s => s
  | k + 1, s => g k (fdF g k s)
/-- the rows from depth d on (r more days): the most, and the row -/
def exF (p : PL) (D : Nat) : Nat → MO → FN → Int32 × FN → Int32 × FN
  | 0, o, row, st => if st.1 < nI (ctF p o) then (nI (ctF p o), tr D row) else st
  | r + 1, o, row, st => fdF (fun s st => if st.1 < nI p.1 then exF p D r (psF p o (nI s)) (upd row (D - (r + 1)) (nI s)) st else st) p.1 st
theorem fdF_fix {S : Type} {g : Nat → S → S} {s : S} {k : Nat} (h : ∀ i, g i (fdF g k s) = fdF g k s) : ∀ j, fdF g (k + j) s = fdF g k s := by
  intro j
  induction j with
  | zero => rfl
  | succ j ih =>
    show g (k + j) (fdF g (k + j) s) = _
    rw [ih]
    exact h _
theorem exF_row {p : PL} {D : Nat} : ∀ (r : Nat) (o : MO) (row row' : FN) (st : Int32 × FN), r ≤ D → tr (D - r) row = tr (D - r) row' → exF p D r o row st = exF p D r o row' st := by
  intro r
  induction r with
  | zero =>
    intro o row row' st _ h
    unfold exF
    rw [show D - 0 = D from rfl] at h
    rw [h]
  | succ r ih =>
    intro o row row' st hr h
    unfold exF
    have : ∀ k, fdF (fun s st => if st.1 < nI p.1 then exF p D r (psF p o (nI s)) (upd row (D - (r + 1)) (nI s)) st else st) k st = fdF (fun s st => if st.1 < nI p.1 then exF p D r (psF p o (nI s)) (upd row' (D - (r + 1)) (nI s)) st else st) k st := by
      intro k
      induction k with
      | zero => rfl
      | succ k ihk =>
        unfold fdF
        rw [ihk]
        split
        · refine ih _ _ _ _ (by omega) (tr_ext fun i hi => ?_)
          unfold upd
          by_cases e : i = D - (r + 1)
          · rw [if_pos e, if_pos e]
          · rw [if_neg e, if_neg e]
            exact (tr_iff.mp h) i (by omega)
        · rfl
    exact this p.1
/-- what extend leaves -/
def exP (n D d : Nat) (σ σ' : Sg) (st : Int32 × FN) : Prop := σ' 62 4 = st.1 ∧ tr D (σ' 65) = st.2 ∧ σ' 62 3 = σ 62 3 ∧ tr d (σ' 64) = tr d (σ 64) ∧ ∀ c, c ≠ 62 → c ≠ 64 → c ≠ 65 → ¬ (66 + 3 * (d + 1) ≤ c ∧ c ≤ 80) → σ' c = σ c
theorem plC_fr {n : Nat} {σ σ' : Sg} (h : ∀ c, 3 ≤ c → c ≤ 8 → σ' c = σ c) : plC n σ' = plC n σ := by
  unfold plC
  rw [h 3 (by decide) (by decide), h 4 (by decide) (by decide), h 5 (by decide) (by decide), h 6 (by decide) (by decide), h 7 (by decide) (by decide), h 8 (by decide) (by decide)]
theorem moC_fr {n m : Nat} {σ σ' : Sg} (h : ∀ c, m ≤ c → c ≤ m + 2 → σ' c = σ c) : moC n σ' m = moC n σ m := by
  unfold moC
  rw [h m (by omega) (by omega), h (m + 1) (by omega) (by omega), h (m + 2) (by omega) (by omega)]

set_option maxRecDepth 100000 in
set_option maxHeartbeats 1000000 in
theorem k_extend {n D : Nat} (hn8 : n ≤ 8) (hD4 : D ≤ 4) : ∀ (r d : Nat) (σ : Sg), d + r = D → σ 3 5 = nI n → σ 62 3 = nI D → Cm (4 + r) YX4_extend [.ref 62, .ref 3, .int (nI d)] σ (fun v σ' => v = none ∧ exP n D d σ σ' (exF (plC n σ) D r (moC n σ (66 + 3 * d)) (σ 64) (σ 62 4, tr D (σ 65)))) := by
  intro r
  induction r with
  | zero =>
    intro d σ hd hn hD
    obtain rfl : d = D := by omega
    refine Cm_of (by decide +kernel) (Nat.le_of_ble_eq_true rfl) ?_
    refine x_iload_n dX4_extend_0 rfl ?_
    refine x_if_lt (tgt := 17) dX4_extend_1 (by decide) (fun c_1 => (absurd c_1 (nI_pos (by omega)))) (fun c_1 => ?_)
    refine x_iload_n dX4_extend_4 rfl ?_
    refine x_aload_n dX4_extend_5 rfl ?_
    refine s_geti (ci := 4) (k := 3) (N := 5) (C := RX4) (T := TX4) dX4_extend_6 lfX4_24 inX4 rfl (by decide) (rfl) rfl ?_
    refine x_icmp_ge (tgt := 17) dX4_extend_9 (by decide) (fun c_9 => ?_) (fun c_9 => (absurd (by rw [hD]; exact Int32.le_refl _) c_9))
    refine x_aload_n dX4_extend_17 rfl ?_
    refine x_aload_n dX4_extend_18 rfl ?_
    refine s_callV dX4_extend_19 (k_judge σ hn hn8 hD hD4) rfl w_X4_judge lmX4_46 im_X4_judge se_X4_judge rfl (rfl) rfl (Nat.le_of_ble_eq_true rfl) rfl (by decide) (fun v_19 σ_19 h_19 => ?_)
    obtain ⟨rfl, rfl⟩ := h_19
    refine s_ret dX4_extend_22 rfl ?_
    refine ⟨rfl, ?_⟩
    unfold exF
    have e : tr d (cpN 4 (σ 64) (σ 65)) = tr d (σ 64) := cpN_tr hD4
    split
    · refine ⟨by rw [sw_n _ _ (by decide), sg_s], by rw [sw_s, e], by rw [sw_n _ _ (by decide), sg_k _ _ _ (by decide)], by rw [sw_n _ _ (by decide), sg_n _ _ _ (by decide)], fun c h1 h2 h3 _ => by rw [sw_n _ _ h3, sg_n _ _ _ h1]⟩
    · exact ⟨rfl, rfl, rfl, rfl, fun c _ _ _ _ => rfl⟩
  | succ r ih =>
    intro d σ hd hn hD
    refine Cm_of (by decide +kernel) (Nat.le_of_ble_eq_true rfl) ?_
    have loop : ∀ (j k : Nat) (τ : Sg) (V4 : Value), k + j = n → exP n D d σ τ (fdF (fun s st => if st.1 < nI (plC n σ).1 then exF (plC n σ) D r (psF (plC n σ) (moC n σ (66 + 3 * d)) (nI s)) (upd (σ 64) (D - (r + 1)) (nI s)) st else st) k (σ 62 4, tr D (σ 65))) →
        Ex (YX4_extend, 4 + (r + 1), xB0, none) 25 [.ref 62, .ref 3, .int (nI d), .int (nI k), V4] [] (xMs τ) (xQ (fun v σ' => v = none ∧ exP n D d σ σ' (exF (plC n σ) D (r + 1) (moC n σ (66 + 3 * d)) (σ 64) (σ 62 4, tr D (σ 65))))) := by
      intro j
      induction j with
      | zero =>
        intro k τ V4 hk hI
        obtain rfl : k = n := by omega
        have hn' : τ 3 5 = nI k := by rw [hI.2.2.2.2 3 (by decide) (by decide) (by decide) (by omega)]; exact hn
        refine x_iload_n dX4_extend_25 rfl ?_
        refine x_aload_n dX4_extend_26 rfl ?_
        refine s_getiN (ci := 3) (k := 5) (N := 8) (C := RX3) (T := TX3) dX4_extend_27 lfX4_50 inX3 rfl (by decide) (rfl) rfl ?_
        refine x_icmp_ge (tgt := 93) dX4_extend_30 (by decide) (fun c_30 => ?_) (fun c_30 => (absurd (by rw [hn']; exact Int32.le_refl _) c_30))
        exact s_ret dX4_extend_93 rfl (⟨rfl, hI⟩)
      | succ j ihj =>
        intro k τ V4 hk hI
        have hkn : k < n := by omega
        have hn' : τ 3 5 = nI n := by rw [hI.2.2.2.2 3 (by decide) (by decide) (by decide) (by omega)]; exact hn
        obtain ⟨i1, i2, i3, i4, i5⟩ := id hI
        refine x_iload_n dX4_extend_25 rfl ?_
        refine x_aload_n dX4_extend_26 rfl ?_
        refine s_getiN (ci := 3) (k := 5) (N := 8) (C := RX3) (T := TX3) dX4_extend_27 lfX4_50 inX3 rfl (by decide) (rfl) rfl ?_
        refine x_icmp_ge (tgt := 93) dX4_extend_30 (by decide) (fun c_30 => (absurd c_30 (by rw [hn']; exact nI_ge hkn (by omega)))) (fun c_30 => ?_)
        refine x_aload_n dX4_extend_33 rfl ?_
        refine s_geti (ci := 4) (k := 4) (N := 5) (C := RX4) (T := TX4) dX4_extend_34 lfX4_28 inX4 rfl (by decide) (rfl) rfl ?_
        refine x_aload_n dX4_extend_37 rfl ?_
        refine s_getiN (ci := 3) (k := 5) (N := 8) (C := RX3) (T := TX3) dX4_extend_38 lfX4_50 inX3 rfl (by decide) (rfl) rfl ?_
        refine x_icmp_ge (tgt := 93) dX4_extend_41 (by decide) (fun c_41 => ?_) (fun c_41 => ?_)
        · refine s_ret dX4_extend_93 rfl ?_
          rw [hn'] at c_41
          refine ⟨rfl, ?_⟩
          have hfx := fdF_fix (g := fun s st => if st.1 < nI (plC n σ).1 then exF (plC n σ) D r (psF (plC n σ) (moC n σ (66 + 3 * d)) (nI s)) (upd (σ 64) (D - (r + 1)) (nI s)) st else st) (s := (σ 62 4, tr D (σ 65))) (k := k) (fun i => if_neg (by rw [← i1]; exact Int32.not_lt.mpr c_41)) (n - k)
          rw [show k + (n - k) = n by omega] at hfx
          show exP n D d σ τ (fdF _ n _)
          rw [hfx]
          exact hI
        · refine x_aload_n dX4_extend_44 rfl ?_
          refine s_getr (ci := 4) (k := 1) (N := 5) (C := RX4) (T := TX4) dX4_extend_45 lfX4_17 inX4 rfl (by decide) (rfl) rfl ?_
          refine x_iload_n dX4_extend_48 rfl ?_
          refine x_iload_n dX4_extend_49 rfl ?_
          refine s_iast dX4_extend_50 (rfl) (hi := rfl) (hj := by omega) (hn := by decide) ?_
          refine xname (fun σ_50 e_50 => ?_)
          refine x_aload_n dX4_extend_51 rfl ?_
          refine s_getr (ci := 4) (k := 0) (N := 5) (C := RX4) (T := TX4) dX4_extend_52 lfX4_11 inX4 rfl (by decide) (rfl) rfl ?_
          refine x_iload_n dX4_extend_55 rfl ?_
          refine x_iconst (v := 1) dX4_extend_56 (by decide) ?_
          refine x_iadd dX4_extend_57 ?_
          refine s_aald dX4_extend_58 (rfl) (b := 66 + 3 * (d + 1)) (hi := nI_1 d) (hj := by omega) (hn := by decide) (be_at (by omega)) ?_
          refine x_astore dX4_extend_59 (Nat.le_of_ble_eq_true rfl) rfl ?_
          refine x_aload dX4_extend_61 rfl ?_
          refine x_aload_n dX4_extend_63 rfl ?_
          refine s_getr (ci := 4) (k := 0) (N := 5) (C := RX4) (T := TX4) dX4_extend_64 lfX4_11 inX4 rfl (by decide) (rfl) rfl ?_
          refine x_iload_n dX4_extend_67 rfl ?_
          refine s_aald dX4_extend_68 (rfl) (b := 66 + 3 * d) (hi := rfl) (hj := by omega) (hn := by decide) (be_at (by omega)) ?_
          refine s_callV dX4_extend_69 (k_mocopy σ_50 (mo_be (i := d + 1) (by omega)) (mo_be (i := d) (by omega)) (by omega)) rfl w_X1_copyFrom lmX4_38 im_X1_copyFrom se_X1_copyFrom rfl ((mo_be (i := d + 1) (by omega)).1) rfl (Nat.le_of_ble_eq_true rfl) rfl (xdd (b := 4 + (r + 1)) (by omega) (by decide)) (fun v_69 σ_69 h_69 => ?_)
          obtain ⟨rfl, hmo, hfr⟩ := h_69
          refine x_aload dX4_extend_72 rfl ?_
          refine x_aload_n dX4_extend_74 rfl ?_
          refine x_iload_n dX4_extend_75 rfl ?_
          refine s_callV dX4_extend_76 (k_pass σ_69 (mo_be (i := d + 1) (by omega)) (n := n) (by rw [hfr 3 (by omega) (by omega) (by omega), e_50, sg_n _ _ _ (by decide)]; exact hn') hn8 (nI k)) rfl w_X1_pass lmX4_55 im_X1_pass se_X1_pass rfl ((mo_be (i := d + 1) (by omega)).1) rfl (Nat.le_of_ble_eq_true rfl) rfl (xdd (b := 4 + (r + 1)) (by omega) (by decide)) (fun v_76 σ_76 h_76 => ?_)
          obtain ⟨rfl, hmo2, hfr2⟩ := h_76
          refine x_aload_n dX4_extend_79 rfl ?_
          refine x_aload_n dX4_extend_80 rfl ?_
          refine x_iload_n dX4_extend_81 rfl ?_
          refine x_iconst (v := 1) dX4_extend_82 (by decide) ?_
          skip
          refine x_iadd dX4_extend_83 ?_
          rw [nI_1]
          refine s_callS dX4_extend_84 (ih (d + 1) σ_76 (by omega) (by rw [hfr2 3 (by omega) (by omega) (by omega), hfr 3 (by omega) (by omega) (by omega), e_50, sg_n _ _ _ (by decide)]; exact hn') (by rw [hfr2 62 (by omega) (by omega) (by omega), hfr 62 (by omega) (by omega) (by omega), e_50, sg_n _ _ _ (by decide), i3]; exact hD)) rfl w_X4_extend lmX4_42 st_X4_extend rfl (Nat.le_of_ble_eq_true rfl) rfl (xdd (b := 4 + (r + 1)) (by omega) (by decide)) (fun v_84 σ_84 h_84 => ?_)
          obtain ⟨rfl, hex⟩ := h_84
          refine s_iinc dX4_extend_87 rfl (Nat.le_of_ble_eq_true rfl) rfl ?_
          refine x_goto (tgt := 25) dX4_extend_90 (by decide) ?_
          rw [plC_fr (σ' := σ_76) (σ := σ) (fun c h1 h2 => by rw [hfr2 c (by omega) (by omega) (by omega), hfr c (by omega) (by omega) (by omega), e_50, sg_n _ _ _ (by omega)]; exact i5 c (by omega) (by omega) (by omega) (by omega))] at hex
          have hmoc : moC n σ_76 (66 + 3 * (d + 1)) = psF (plC n σ) (moC n σ (66 + 3 * d)) (nI k) := by
            rw [hmo2, hmo n hn8]
            rw [plC_fr (σ' := σ_69) (σ := σ) (fun c h1 h2 => by rw [hfr c (by omega) (by omega) (by omega), e_50, sg_n _ _ _ (by omega)]; exact i5 c (by omega) (by omega) (by omega) (by omega))]
            rw [moC_fr (σ' := σ_50) (σ := σ) (fun c h1 h2 => by rw [e_50, sg_n _ _ _ (by omega)]; exact i5 c (by omega) (by omega) (by omega) (by omega))]
          have h64 : σ_76 64 = upd (τ 64) d (nI k) := by rw [hfr2 64 (by omega) (by omega) (by omega), hfr 64 (by omega) (by omega) (by omega), e_50, sg_row]
          have h65 : σ_76 65 = τ 65 := by rw [hfr2 65 (by omega) (by omega) (by omega), hfr 65 (by omega) (by omega) (by omega), e_50, sg_n _ _ _ (by decide)]
          have h62 : σ_76 62 = τ 62 := by rw [hfr2 62 (by omega) (by omega) (by omega), hfr 62 (by omega) (by omega) (by omega), e_50, sg_n _ _ _ (by decide)]
          rw [hmoc, h62, h65, i2, i1] at hex
          rw [exF_row r _ (σ_76 64) (upd (σ 64) (D - (r + 1)) (nI k)) _ (by omega) (by
            rw [h64]
            refine tr_ext fun i hi => ?_
            unfold upd
            by_cases e : i = d
            · rw [if_pos e, if_pos (by omega)]
            · rw [if_neg e, if_neg (by omega)]
              exact (tr_iff.mp i4) i (by omega))] at hex
          refine ihj (k + 1) σ_84 _ (by omega) ?_
          obtain ⟨j1, j2, j3, j4, j5⟩ := hex
          have hc : (fdF (fun s st => if st.1 < nI (plC n σ).1 then exF (plC n σ) D r (psF (plC n σ) (moC n σ (66 + 3 * d)) (nI s)) (upd (σ 64) (D - (r + 1)) (nI s)) st else st) k (σ 62 4, tr D (σ 65))).1 < nI (plC n σ).1 := by
            rw [← i1]
            rw [hn'] at c_41
            exact Int32.not_le.mp c_41
          have hs : fdF (fun s st => if st.1 < nI (plC n σ).1 then exF (plC n σ) D r (psF (plC n σ) (moC n σ (66 + 3 * d)) (nI s)) (upd (σ 64) (D - (r + 1)) (nI s)) st else st) (k + 1) (σ 62 4, tr D (σ 65)) = exF (plC n σ) D r (psF (plC n σ) (moC n σ (66 + 3 * d)) (nI k)) (upd (σ 64) (D - (r + 1)) (nI k)) (fdF (fun s st => if st.1 < nI (plC n σ).1 then exF (plC n σ) D r (psF (plC n σ) (moC n σ (66 + 3 * d)) (nI s)) (upd (σ 64) (D - (r + 1)) (nI s)) st else st) k (σ 62 4, tr D (σ 65))) := if_pos hc
          rw [hs]
          refine ⟨j1, j2, by rw [j3, h62]; exact i3, tr_ext (fun i hi => ?_), fun c h1 h2 h3 h4 => ?_⟩
          · rw [(tr_iff.mp j4) i (by omega), h64]
            unfold upd
            rw [if_neg (by omega)]
            exact (tr_iff.mp i4) i hi
          · rw [j5 c h1 h2 h3 (by omega), hfr2 c (by omega) (by omega) (by omega), hfr c (by omega) (by omega) (by omega), e_50, sg_n _ _ _ h2]
            exact i5 c h1 h2 h3 h4
    refine x_iload_n dX4_extend_0 rfl ?_
    refine x_if_lt (tgt := 17) dX4_extend_1 (by decide) (fun c_1 => (absurd c_1 (nI_pos (by omega)))) (fun c_1 => ?_)
    refine x_iload_n dX4_extend_4 rfl ?_
    refine x_aload_n dX4_extend_5 rfl ?_
    refine s_geti (ci := 4) (k := 3) (N := 5) (C := RX4) (T := TX4) dX4_extend_6 lfX4_24 inX4 rfl (by decide) (rfl) rfl ?_
    refine x_icmp_ge (tgt := 17) dX4_extend_9 (by decide) (fun c_9 => (absurd c_9 (by rw [hD]; exact nI_ge (by omega) (by omega)))) (fun c_9 => ?_)
    refine x_iload_n dX4_extend_12 rfl ?_
    refine x_iconst (v := 4) dX4_extend_13 (by decide) ?_
    refine x_icmp_lt (tgt := 23) dX4_extend_14 (by decide) (fun c_14 => ?_) (fun c_14 => (absurd (show nI d < nI 4 from nI_lt (by omega) (by decide)) c_14))
    refine x_iconst (v := 0) dX4_extend_23 (by decide) ?_
    refine x_istore_n dX4_extend_24 (Nat.le_of_ble_eq_true rfl) rfl ?_
    exact loop n 0 σ _ (by omega) ⟨rfl, rfl, rfl, rfl, fun c _ _ _ _ => rfl⟩
