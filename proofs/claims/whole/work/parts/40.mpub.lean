/-! ===== RainBallotModel's calls ===== -/

def NB (σ : Sg) : Prop := σ 81 16 = nI 0 ∧ σ 81 17 = nI 0 ∧ σ 81 18 = -1
/-- what an asking call leaves to the model -/
def fM (σ σ' : Sg) : Prop := (∀ i, i < 18 → σ' 85 i = σ 85 i) ∧ (∀ i, σ' 81 i = σ 81 i) ∧ ∀ c, c ≠ 81 → c ≠ 85 → c ≠ 90 → c ≠ 91 → σ' c = σ c
theorem fM_rf (σ : Sg) : fM σ σ := ⟨fun _ _ => rfl, fun _ => rfl, fun _ _ _ _ _ => rfl⟩
theorem plM_fr {n c : Nat} {σ σ' : Sg} (h : σ' c = σ c) : plM n σ' c = plM n σ c := by unfold plM; rw [h]
theorem k_carried0 (σ : Sg) {n : Nat} (hn : σ 83 0 = nI n) (hn8 : n ≤ 8) (hb : NB σ) : Cm 3 YX9_carried [.ref 81] σ (fun v σ' => v = some (.int (caF (plM n σ 83) (moS n σ) 0 0 (-1))) ∧ ∀ c, c ≠ 90 → σ' c = σ c) :=
  k_carried σ hn hn8 (by decide) (by decide) (Or.inl rfl) hb.1 hb.2.1 hb.2.2
theorem it_wk {p : PL} {o : MO} (hp : Wp p) (ho : Wm p.1 o) : ∀ k, Wm p.1 (itF p o k) := by
  intro k
  induction k with
  | zero => exact ho
  | succ k ih => exact da_wk hp ih
set_option maxRecDepth 100000 in
theorem l_passes {n N : Nat} {p : PL} {o : MO} (hp : Wp p) (hp1 : p.1 = n) (ho : Wm n o) (hN : N ≤ 1000) (σ0 : Sg) (h0n : σ0 83 0 = nI n) (h0p : plM n σ0 83 = p) (hb : NB σ0) : ∀ (j k : Nat) (σ : Sg), k + j = N → moS n σ = itF p o k → (∀ c, c ≠ 85 → c ≠ 90 → σ c = σ0 c) →
    Ex (YX9_passes, 4, xB0, none) 2 [.ref 81, .int (nI N), .int (nI k)] [] (xMs σ) (xQ (fun v σ' => v = none ∧ moS n σ' = itF p o N ∧ ∀ c, c ≠ 85 → c ≠ 90 → σ' c = σ0 c)) := by
  intro j
  induction j with
  | zero =>
    intro k σ hk hm hf
    have hk : k = N := by omega
    subst hk
    refine x_iload_n dX9_passes_2 rfl ?_
    refine x_iload_n dX9_passes_3 rfl ?_
    refine x_icmp_ge (tgt := 21) dX9_passes_4 (by decide) (fun c_4 => ?_) (fun c_4 => (absurd (Int32.le_refl _) c_4))
    exact s_ret dX9_passes_21 rfl (⟨rfl, hm, hf⟩)
  | succ j ih =>
    intro k σ hk hm hf
    have hkn : k < N := by omega
    have hn8 : n ≤ 8 := by rw [← hp1]; exact hp.1
    have hn : σ 83 0 = nI n := by rw [hf 83 (by decide) (by decide)]; exact h0n
    have ep : plM n σ 83 = p := by rw [plM_fr (hf 83 (by decide) (by decide))]; exact h0p
    have hb : NB σ := by unfold NB; rw [hf 81 (by decide) (by decide)]; exact hb
    have hw := it_wk hp (by rw [hp1]; exact ho) k
    rw [hp1, ← hm] at hw
    refine x_iload_n dX9_passes_2 rfl ?_
    refine x_iload_n dX9_passes_3 rfl ?_
    refine x_icmp_ge (tgt := 21) dX9_passes_4 (by decide) (fun c_4 => (absurd c_4 (nI_ge hkn (by omega)))) (fun c_4 => ?_)
    refine x_aload_n dX9_passes_7 rfl ?_
    refine x_aload_n dX9_passes_8 rfl ?_
    refine s_callV dX9_passes_9 (k_carried0 σ hn hn8 hb) rfl w_X9_carried lmX9_138 im_X9_carried se_X9_carried rfl (rfl) rfl (Nat.le_of_ble_eq_true rfl) rfl (by decide) (fun v_9 σ_9 h_9 => ?_)
    obtain ⟨rfl, cf⟩ := h_9
    have em : moS n σ_9 = moS n σ := by unfold moS; rw [cf 85 (by decide)]
    have ep2 : plM n σ_9 83 = p := by rw [plM_fr (cf 83 (by decide))]; exact ep
    refine s_callV dX9_passes_12 (k_rains σ_9 (n := n) (by rw [cf 83 (by decide)]; exact hn) (by rw [ep2]; exact hp) (by rw [em]; exact hw.1) (s := caF (plM n σ 83) (moS n σ) 0 0 (-1)) (by have := ca_inq (p := p) (o := moS n σ) (a := 0) (b := 0) (t := -1); rw [ep]; rwa [hp1] at this)) rfl w_X9_rains lmX9_141 im_X9_rains se_X9_rains rfl (rfl) rfl (Nat.le_of_ble_eq_true rfl) rfl (by decide) (fun v_12 σ_12 h_12 => ?_)
    obtain ⟨rfl, rm, rf⟩ := h_12
    refine s_iinc dX9_passes_15 rfl (Nat.le_of_ble_eq_true rfl) rfl ?_
    refine x_goto (tgt := 2) dX9_passes_18 (by decide) ?_
    refine ih (k + 1) _ (by omega) ?_ (fun c h1 h2 => by rw [rf c h1, cf c h2]; exact hf c h1 h2)
    rw [rm, ep2, em, ep]
    show psF p (moS n σ) (caF p (moS n σ) 0 0 (-1)) = daF p (itF p o k)
    rw [hm]
    rfl
set_option maxRecDepth 100000 in
theorem k_passes (σ : Sg) {n N : Nat} (hn : σ 83 0 = nI n) (hp : Wp (plM n σ 83)) (ho : Wm n (moS n σ)) (hb : NB σ) (hN : N ≤ 1000) : Cm 4 YX9_passes [.ref 81, .int (nI N)] σ (fun v σ' => v = none ∧ moS n σ' = itF (plM n σ 83) (moS n σ) N ∧ ∀ c, c ≠ 85 → c ≠ 90 → σ' c = σ c) := by
  refine Cm_of (by decide +kernel) (Nat.le_of_ble_eq_true rfl) ?_
  refine x_iconst (v := 0) dX9_passes_0 (by decide) ?_
  refine x_istore_n dX9_passes_1 (Nat.le_of_ble_eq_true rfl) rfl ?_
  exact l_passes hp rfl ho hN σ hn rfl hb N 0 σ (by omega) rfl (fun _ _ _ => rfl)
set_option maxRecDepth 100000 in
theorem l_ones (σ : Sg) {a : Nat} (ha : a < 256) : ∀ (j k : Nat), k + j = 8 → Ex (YX9_ones, 0, xB0, none) 4 [.int (nI a), .int (nI (onF a k)), .int (nI k)] [] (xMs σ) (xQ (fun v σ' => v = some (.int (nI (onF a 8))) ∧ σ' = σ)) := by
  intro j
  induction j with
  | zero =>
    intro k hk
    have hk : k = 8 := by omega
    subst hk
    refine x_iload_n dX9_ones_4 rfl ?_
    refine x_bipush (v := 8) dX9_ones_5 (by decide) ?_
    refine x_icmp_ge (tgt := 24) dX9_ones_7 (by decide) (fun c_7 => ?_) (fun c_7 => (absurd (by decide) c_7))
    refine x_iload_n dX9_ones_24 rfl ?_
    exact s_iret dX9_ones_25 rfl (⟨rfl, rfl⟩)
  | succ j ih =>
    intro k hk
    have hkn : k < 8 := by omega
    have e : nI (onF a k) + bI (a.testBit k) = nI (onF a (k + 1)) := by
      show _ = nI (onF a k + (if a.testBit k = true then 1 else 0))
      cases a.testBit k
      · exact nI_add _ 0
      · exact nI_add _ 1
    refine x_iload_n dX9_ones_4 rfl ?_
    refine x_bipush (v := 8) dX9_ones_5 (by decide) ?_
    refine x_icmp_ge (tgt := 24) dX9_ones_7 (by decide) (fun c_7 => (absurd c_7 (show ¬ nI 8 ≤ nI k from nI_ge hkn (by omega)))) (fun c_7 => ?_)
    refine x_iload_n dX9_ones_10 rfl ?_
    refine x_iload_n dX9_ones_11 rfl ?_
    refine x_iload_n dX9_ones_12 rfl ?_
    refine x_ishr dX9_ones_13 ?_
    refine x_iconst (v := 1) dX9_ones_14 (by decide) ?_
    refine x_iand dX9_ones_15 ?_
    rw [bz_bit (by omega) (by omega)]
    refine x_iadd dX9_ones_16 ?_
    rw [e]
    refine x_istore_n dX9_ones_17 (Nat.le_of_ble_eq_true rfl) rfl ?_
    refine s_iinc dX9_ones_18 rfl (Nat.le_of_ble_eq_true rfl) rfl ?_
    refine x_goto (tgt := 4) dX9_ones_21 (by decide) ?_
    exact ih (k + 1) (by omega)
set_option maxRecDepth 100000 in
theorem k_ones (σ : Sg) {a : Nat} (ha : a < 256) : Cm 0 YX9_ones [.int (nI a)] σ (fun v σ' => v = some (.int (nI (onF a 8))) ∧ σ' = σ) := by
  refine Cm_of (by decide +kernel) (Nat.le_of_ble_eq_true rfl) ?_
  refine x_iconst (v := 0) dX9_ones_0 (by decide) ?_
  refine x_istore_n dX9_ones_1 (Nat.le_of_ble_eq_true rfl) rfl ?_
  refine x_iconst (v := 0) dX9_ones_2 (by decide) ?_
  refine x_istore_n dX9_ones_3 (Nat.le_of_ble_eq_true rfl) rfl ?_
  exact l_ones σ ha 8 0 (by omega)
def saP (p : PL) (o : MO) : Nat → Bool := saF o.1 p.2.2.2.1 p.2.2.2.2.1
set_option maxRecDepth 100000 in
theorem l_sated (σ : Sg) {n : Nat} (hn : σ 83 0 = nI n) (hn8 : n ≤ 8) : ∀ (j k : Nat), k + j = n → Ex (YX9_sated, 1, xB0, none) 4 [.ref 81, .int (nI (stF (saP (plM n σ 83) (moS n σ)) k)), .int (nI k)] [] (xMs σ) (xQ (fun v σ' => v = some (.int (nI (stF (saP (plM n σ 83) (moS n σ)) n))) ∧ σ' = σ)) := by
  intro j
  induction j with
  | zero =>
    intro k hk
    have hk : k = n := by omega
    subst hk
    refine x_iload_n dX9_sated_4 rfl ?_
    refine x_aload_n dX9_sated_5 rfl ?_
    refine s_getr (ci := 9) (k := 2) (N := 20) (C := RX9) (T := TX9) dX9_sated_6 lfX9_13 inX9 rfl (by decide) (rfl) rfl ?_
    refine x_iconst (v := 0) dX9_sated_9 (by decide) ?_
    refine s_iald dX9_sated_10 (rfl) (j := 0) (hi := by decide) (hj := by omega) (hn := by decide) ?_
    refine x_icmp_ge (tgt := 44) dX9_sated_11 (by decide) (fun c_11 => ?_) (fun c_11 => (absurd (by rw [hn]; exact Int32.le_refl _) c_11))
    refine x_iload_n dX9_sated_44 rfl ?_
    exact s_iret dX9_sated_45 rfl (⟨rfl, rfl⟩)
  | succ j ih =>
    intro k hk
    have hkn : k < n := by omega
    have e3 : (moS n σ).1 k = σ 85 k := tr_i hkn
    have step : ∀ x : Int32, x = nI (stF (saP (plM n σ 83) (moS n σ)) (k + 1)) → Ex (YX9_sated, 1, xB0, none) 4 [.ref 81, .int x, .int (nI (k + 1))] [] (xMs σ) (xQ (fun v σ' => v = some (.int (nI (stF (saP (plM n σ 83) (moS n σ)) n))) ∧ σ' = σ)) := fun x hx => by
      subst hx
      exact ih (k + 1) (by omega)
    refine x_iload_n dX9_sated_4 rfl ?_
    refine x_aload_n dX9_sated_5 rfl ?_
    refine s_getr (ci := 9) (k := 2) (N := 20) (C := RX9) (T := TX9) dX9_sated_6 lfX9_13 inX9 rfl (by decide) (rfl) rfl ?_
    refine x_iconst (v := 0) dX9_sated_9 (by decide) ?_
    refine s_iald dX9_sated_10 (rfl) (j := 0) (hi := by decide) (hj := by omega) (hn := by decide) ?_
    refine x_icmp_ge (tgt := 44) dX9_sated_11 (by decide) (fun c_11 => (absurd c_11 (by rw [hn]; exact nI_ge hkn (by omega)))) (fun c_11 => ?_)
    refine x_iload_n dX9_sated_14 rfl ?_
    refine x_aload_n dX9_sated_15 rfl ?_
    refine s_getr (ci := 9) (k := 4) (N := 20) (C := RX9) (T := TX9) dX9_sated_16 lfX9_19 inX9 rfl (by decide) (rfl) rfl ?_
    refine x_iload_n dX9_sated_19 rfl ?_
    refine s_iald dX9_sated_20 (rfl) (hi := rfl) (hj := by omega) (hn := by decide) ?_
    refine x_aload_n dX9_sated_21 rfl ?_
    refine x_iload_n dX9_sated_22 rfl ?_
    refine s_callV dX9_sated_23 (k_mwants σ hn8 hkn) rfl w_X9_wants lmX9_114 im_X9_wants se_X9_wants rfl (rfl) rfl (Nat.le_of_ble_eq_true rfl) rfl (by decide) (fun v_23 σ_23 h_23 => ?_)
    obtain ⟨rfl, z_23⟩ := h_23
    have z_23 := z_23.symm
    subst z_23
    rw [← e3]
    refine x_icmp_lt (tgt := 35) dX9_sated_26 (by decide) (fun c_26 => ?_) (fun c_26 => ?_)
    · refine x_iconst (v := 0) dX9_sated_35 (by decide) ?_
      refine x_ior dX9_sated_36 ?_
      skip
      refine x_istore_n dX9_sated_37 (Nat.le_of_ble_eq_true rfl) rfl ?_
      refine s_iinc dX9_sated_38 rfl (Nat.le_of_ble_eq_true rfl) rfl ?_
      refine x_goto (tgt := 4) dX9_sated_41 (by decide) ?_
      refine step _ ?_
      first
        | exact stF_s (by omega) (show saP (plM n σ 83) (moS n σ) k = true by unfold saP saF; rw [decide_eq_false (by first | exact c_26 | exact Int32.not_lt.mpr c_26)]; rfl)
        | (rw [Int32.or_zero]; exact stF_n (show ¬ saP (plM n σ 83) (moS n σ) k = true by unfold saP saF; rw [decide_eq_true c_26]; decide))
    · refine x_iconst (v := 1) dX9_sated_29 (by decide) ?_
      refine x_iload_n dX9_sated_30 rfl ?_
      refine x_ishl dX9_sated_31 ?_
      refine x_goto (tgt := 36) dX9_sated_32 (by decide) ?_
      refine x_ior dX9_sated_36 ?_
      skip
      refine x_istore_n dX9_sated_37 (Nat.le_of_ble_eq_true rfl) rfl ?_
      refine s_iinc dX9_sated_38 rfl (Nat.le_of_ble_eq_true rfl) rfl ?_
      refine x_goto (tgt := 4) dX9_sated_41 (by decide) ?_
      refine step _ ?_
      first
        | exact stF_s (by omega) (show saP (plM n σ 83) (moS n σ) k = true by unfold saP saF; rw [decide_eq_false (by first | exact c_26 | exact Int32.not_lt.mpr c_26)]; rfl)
        | (rw [Int32.or_zero]; exact stF_n (show ¬ saP (plM n σ 83) (moS n σ) k = true by unfold saP saF; rw [decide_eq_true c_26]; decide))
set_option maxRecDepth 100000 in
theorem k_sated (σ : Sg) {n : Nat} (hn : σ 83 0 = nI n) (hn8 : n ≤ 8) : Cm 1 YX9_sated [.ref 81] σ (fun v σ' => v = some (.int (nI (stF (saP (plM n σ 83) (moS n σ)) n))) ∧ σ' = σ) := by
  refine Cm_of (by decide +kernel) (Nat.le_of_ble_eq_true rfl) ?_
  refine x_iconst (v := 0) dX9_sated_0 (by decide) ?_
  refine x_istore_n dX9_sated_1 (Nat.le_of_ble_eq_true rfl) rfl ?_
  refine x_iconst (v := 0) dX9_sated_2 (by decide) ?_
  refine x_istore_n dX9_sated_3 (Nat.le_of_ble_eq_true rfl) rfl ?_
  exact l_sated σ hn hn8 n 0 (by omega)
/-- after a look at days to come: lets -/
theorem lets_fM {n : Nat} {σ σ1 σ2 σ3 : Sg} {W W2 : FN} (h1 : ∀ i, i < 18 → W i = σ 85 i) (h2 : σ1 = sw σ 91 W) (h3 : ∀ c, c ≠ 85 → c ≠ 90 → σ2 c = σ1 c) (h4 : ∀ i, i < 18 → W2 i = σ2 91 i) (h5 : σ3 = sw σ2 85 W2) : fM σ σ3 := by
  refine ⟨fun i hi => ?_, fun i => ?_, fun c a b d e => ?_⟩
  · rw [h5, sw_s, h4 i hi, h3 91 (by decide) (by decide), h2, sw_s, h1 i hi]
  · rw [h5, sw_n _ _ (by decide), h3 81 (by decide) (by decide), h2, sw_n _ _ (by decide)]
  · rw [h5, sw_n _ _ b, h3 c b d, h2, sw_n _ _ e]
set_option maxRecDepth 100000 in
theorem k_mwhere_o (σ : Sg) (w : Int32) (h : rgF 1 30 w = false) : Cm 12 YX9_where [.ref 81, .int w] σ (fun v σ' => v = some (.int (-3)) ∧ σ' = σ) := by
  refine Cm_of (by decide +kernel) (Nat.le_of_ble_eq_true rfl) ?_
  refine x_iload_n dX9_where_0 rfl ?_
  refine x_iconst (v := 1) dX9_where_1 (by decide) ?_
  refine x_bipush (v := 30) dX9_where_2 (by decide) ?_
  refine s_callS dX9_where_4 (k_in σ _ _ _) rfl w_X9_in lmX9_51 st_X9_in rfl (Nat.le_of_ble_eq_true rfl) rfl (by decide) (fun v_4 σ_4 h_4 => ?_)
  obtain ⟨rfl, z_4⟩ := h_4
  have z_4 := z_4.symm
  subst z_4
  refine x_if_ne (tgt := 13) dX9_where_7 (by decide) (fun c_7 => (absurd (by rw [h]; rfl) c_7)) (fun c_7 => ?_)
  refine x_bipush (v := -3) dX9_where_10 (by decide) ?_
  exact s_iret dX9_where_12 rfl (⟨rfl, rfl⟩)

set_option maxRecDepth 100000 in
theorem k_mwhere (σ : Sg) {n N : Nat} (hn : σ 83 0 = nI n) (hp : Wp (plM n σ 83)) (ho : Wm n (moS n σ)) (hb : NB σ) (h1 : 1 ≤ N) (h2 : N ≤ 30) : Cm 12 YX9_where [.ref 81, .int (nI N)] σ (fun v σ' => v = some (.int (itF (plM n σ 83) (moS n σ) N).2.2.1) ∧ fM σ σ') := by
  refine Cm_of (by decide +kernel) (Nat.le_of_ble_eq_true rfl) ?_
  have hn8 : n ≤ 8 := hp.1
  refine x_iload_n dX9_where_0 rfl ?_
  refine x_iconst (v := 1) dX9_where_1 (by decide) ?_
  refine x_bipush (v := 30) dX9_where_2 (by decide) ?_
  refine s_callS dX9_where_4 (k_in σ _ _ _) rfl w_X9_in lmX9_51 st_X9_in rfl (Nat.le_of_ble_eq_true rfl) rfl (by decide) (fun v_4 σ_4 h_4 => ?_)
  obtain ⟨rfl, z_4⟩ := h_4
  have z_4 := z_4.symm
  subst z_4
  refine x_if_ne (tgt := 13) dX9_where_7 (by decide) (fun c_7 => ?_) (fun c_7 => (absurd c_7 (by rw [show rgF 1 30 (nI N) = true from rgF_i (a := 1) (b := 30) h1 h2 (by decide)]; decide)))
  refine x_aload_n dX9_where_13 rfl ?_
  refine s_callV dX9_where_14 (k_holds σ) rfl w_X9_holds lmX9_145 im_X9_holds se_X9_holds rfl (rfl) rfl (Nat.le_of_ble_eq_true rfl) rfl (by decide) (fun v_14 σ_14 h_14 => ?_)
  obtain ⟨rfl, W, hW, z⟩ := h_14
  have es := z
  refine x_aload_n dX9_where_17 rfl ?_
  refine x_iload_n dX9_where_18 rfl ?_
  refine s_callV dX9_where_19 (k_passes σ_14 (n := n) (by rw [es]; exact hn) (by rw [es]; exact hp) (by rw [es]; exact ho) (by rw [es]; exact hb) (by omega)) rfl w_X9_passes lmX9_148 im_X9_passes se_X9_passes rfl (rfl) rfl (Nat.le_of_ble_eq_true rfl) rfl (by decide) (fun v_19 σ_19 h_19 => ?_)
  obtain ⟨rfl, pm, pf⟩ := h_19
  have pm : moS n σ_19 = itF (plM n σ 83) (moS n σ) N := by rw [pm, es]; rfl
  refine x_aload_n dX9_where_22 rfl ?_
  refine s_getr (ci := 9) (k := 4) (N := 20) (C := RX9) (T := TX9) dX9_where_23 lfX9_19 inX9 rfl (by decide) (rfl) rfl ?_
  refine x_bipush (v := 17) dX9_where_26 (by decide) ?_
  refine s_iald dX9_where_28 (rfl) (j := 17) (hi := by decide) (hj := by omega) (hn := by decide) ?_
  refine x_istore_n dX9_where_29 (Nat.le_of_ble_eq_true rfl) rfl ?_
  refine x_aload_n dX9_where_30 rfl ?_
  refine s_callV dX9_where_31 (k_lets _) rfl w_X9_lets lmX9_151 im_X9_lets se_X9_lets rfl (rfl) rfl (Nat.le_of_ble_eq_true rfl) rfl (by decide) (fun v_31 σ_31 h_31 => ?_)
  obtain ⟨rfl, W2, hW2, es2⟩ := h_31
  refine x_iload_n dX9_where_34 rfl ?_
  exact s_iret dX9_where_35 rfl (⟨by rw [← pm]; rfl, lets_fM (n := n) hW es pf hW2 es2⟩)

set_option maxRecDepth 100000 in
theorem k_mstreet_u (σ : Sg) {n : Nat} (hn : σ 83 0 = nI n) (hn8 : n ≤ 8) (s : Int32) (w : Int32) (hs : inb n s = false) : Cm 12 YX9_street [.ref 81, .int s, .int w] σ (fun v σ' => v = some (.int (-2)) ∧ σ' = σ) := by
  refine Cm_of (by decide +kernel) (Nat.le_of_ble_eq_true rfl) ?_
  refine x_aload_n dX9_street_0 rfl ?_
  refine x_iload_n dX9_street_1 rfl ?_
  refine s_callV dX9_street_2 (k_isStreet σ hn hn8 _) rfl w_X9_isStreet lmX9_129 im_X9_isStreet se_X9_isStreet rfl (rfl) rfl (Nat.le_of_ble_eq_true rfl) rfl (by decide) (fun v_2 σ_2 h_2 => ?_)
  obtain ⟨rfl, z_2⟩ := h_2
  have z_2 := z_2.symm
  subst z_2
  refine x_if_ne (tgt := 11) dX9_street_5 (by decide) (fun c_5 => (absurd (by rw [hs]; rfl) c_5)) (fun c_5 => ?_)
  refine x_bipush (v := -2) dX9_street_8 (by decide) ?_
  exact s_iret dX9_street_10 rfl (⟨rfl, rfl⟩)
set_option maxRecDepth 100000 in
theorem k_mas_u (σ : Sg) {n : Nat} (hn : σ 83 0 = nI n) (hn8 : n ≤ 8) (s : Int32) (w : Int32) (hs : inb n s = false) : Cm 12 YX9_as [.ref 81, .int s, .int w] σ (fun v σ' => v = some (.int (-2)) ∧ σ' = σ) := by
  refine Cm_of (by decide +kernel) (Nat.le_of_ble_eq_true rfl) ?_
  refine x_aload_n dX9_as_0 rfl ?_
  refine x_iload_n dX9_as_1 rfl ?_
  refine s_callV dX9_as_2 (k_isStreet σ hn hn8 _) rfl w_X9_isStreet lmX9_129 im_X9_isStreet se_X9_isStreet rfl (rfl) rfl (Nat.le_of_ble_eq_true rfl) rfl (by decide) (fun v_2 σ_2 h_2 => ?_)
  obtain ⟨rfl, z_2⟩ := h_2
  have z_2 := z_2.symm
  subst z_2
  refine x_if_ne (tgt := 11) dX9_as_5 (by decide) (fun c_5 => (absurd (by rw [hs]; rfl) c_5)) (fun c_5 => ?_)
  refine x_bipush (v := -2) dX9_as_8 (by decide) ?_
  exact s_iret dX9_as_10 rfl (⟨rfl, rfl⟩)
set_option maxRecDepth 100000 in
theorem k_mhose_u (σ : Sg) {n : Nat} (hn : σ 83 0 = nI n) (hn8 : n ≤ 8) (s : Int32) (w : Int32) (hs : inb n s = false) : Cm 12 YX9_hose [.ref 81, .int s, .int w] σ (fun v σ' => v = some (.int (-2)) ∧ σ' = σ) := by
  refine Cm_of (by decide +kernel) (Nat.le_of_ble_eq_true rfl) ?_
  refine x_aload_n dX9_hose_0 rfl ?_
  refine x_iload_n dX9_hose_1 rfl ?_
  refine s_callV dX9_hose_2 (k_isStreet σ hn hn8 _) rfl w_X9_isStreet lmX9_129 im_X9_isStreet se_X9_isStreet rfl (rfl) rfl (Nat.le_of_ble_eq_true rfl) rfl (by decide) (fun v_2 σ_2 h_2 => ?_)
  obtain ⟨rfl, z_2⟩ := h_2
  have z_2 := z_2.symm
  subst z_2
  refine x_if_ne (tgt := 11) dX9_hose_5 (by decide) (fun c_5 => (absurd (by rw [hs]; rfl) c_5)) (fun c_5 => ?_)
  refine x_bipush (v := -2) dX9_hose_8 (by decide) ?_
  exact s_iret dX9_hose_10 rfl (⟨rfl, rfl⟩)
set_option maxRecDepth 100000 in
theorem k_mpoll_u (σ : Sg) {n : Nat} (hn : σ 83 0 = nI n) (hn8 : n ≤ 8) (s : Int32) (w : Int32) (hs : inb n s = false) : Cm 12 YX9_poll [.ref 81, .int s, .int w] σ (fun v σ' => v = some (.int (-2)) ∧ σ' = σ) := by
  refine Cm_of (by decide +kernel) (Nat.le_of_ble_eq_true rfl) ?_
  refine x_aload_n dX9_poll_0 rfl ?_
  refine x_iload_n dX9_poll_1 rfl ?_
  refine s_callV dX9_poll_2 (k_isStreet σ hn hn8 _) rfl w_X9_isStreet lmX9_129 im_X9_isStreet se_X9_isStreet rfl (rfl) rfl (Nat.le_of_ble_eq_true rfl) rfl (by decide) (fun v_2 σ_2 h_2 => ?_)
  obtain ⟨rfl, z_2⟩ := h_2
  have z_2 := z_2.symm
  subst z_2
  refine x_if_ne (tgt := 11) dX9_poll_5 (by decide) (fun c_5 => (absurd (by rw [hs]; rfl) c_5)) (fun c_5 => ?_)
  refine x_bipush (v := -2) dX9_poll_8 (by decide) ?_
  exact s_iret dX9_poll_10 rfl (⟨rfl, rfl⟩)
set_option maxRecDepth 100000 in
theorem k_mwet_u (σ : Sg) {n : Nat} (hn : σ 83 0 = nI n) (hn8 : n ≤ 8) (s : Int32) (w : Int32) (hs : inb n s = false) : Cm 12 YX9_wet [.ref 81, .int s, .int w] σ (fun v σ' => v = some (.int (-2)) ∧ σ' = σ) := by
  refine Cm_of (by decide +kernel) (Nat.le_of_ble_eq_true rfl) ?_
  refine x_aload_n dX9_wet_0 rfl ?_
  refine x_iload_n dX9_wet_1 rfl ?_
  refine s_callV dX9_wet_2 (k_isStreet σ hn hn8 _) rfl w_X9_isStreet lmX9_129 im_X9_isStreet se_X9_isStreet rfl (rfl) rfl (Nat.le_of_ble_eq_true rfl) rfl (by decide) (fun v_2 σ_2 h_2 => ?_)
  obtain ⟨rfl, z_2⟩ := h_2
  have z_2 := z_2.symm
  subst z_2
  refine x_if_ne (tgt := 11) dX9_wet_5 (by decide) (fun c_5 => (absurd (by rw [hs]; rfl) c_5)) (fun c_5 => ?_)
  refine x_bipush (v := -2) dX9_wet_8 (by decide) ?_
  exact s_iret dX9_wet_10 rfl (⟨rfl, rfl⟩)
set_option maxRecDepth 100000 in
theorem k_mcarry_u (σ : Sg) {n : Nat} (hn : σ 83 0 = nI n) (hn8 : n ≤ 8) (s : Int32)  (hs : inb n s = false) : Cm 12 YX9_carry [.ref 81, .int s] σ (fun v σ' => v = some (.int (-2)) ∧ σ' = σ) := by
  refine Cm_of (by decide +kernel) (Nat.le_of_ble_eq_true rfl) ?_
  refine x_aload_n dX9_carry_0 rfl ?_
  refine x_iload_n dX9_carry_1 rfl ?_
  refine s_callV dX9_carry_2 (k_isStreet σ hn hn8 _) rfl w_X9_isStreet lmX9_129 im_X9_isStreet se_X9_isStreet rfl (rfl) rfl (Nat.le_of_ble_eq_true rfl) rfl (by decide) (fun v_2 σ_2 h_2 => ?_)
  obtain ⟨rfl, z_2⟩ := h_2
  have z_2 := z_2.symm
  subst z_2
  refine x_if_ne (tgt := 11) dX9_carry_5 (by decide) (fun c_5 => (absurd (by rw [hs]; rfl) c_5)) (fun c_5 => ?_)
  refine x_bipush (v := -2) dX9_carry_8 (by decide) ?_
  exact s_iret dX9_carry_10 rfl (⟨rfl, rfl⟩)
set_option maxRecDepth 100000 in
theorem k_mreach_u (σ : Sg) {n : Nat} (hn : σ 83 0 = nI n) (hn8 : n ≤ 8) (s : Int32)  (hs : inb n s = false) : Cm 12 YX9_reach [.ref 81, .int s] σ (fun v σ' => v = some (.int (-2)) ∧ σ' = σ) := by
  refine Cm_of (by decide +kernel) (Nat.le_of_ble_eq_true rfl) ?_
  refine x_aload_n dX9_reach_0 rfl ?_
  refine x_iload_n dX9_reach_1 rfl ?_
  refine s_callV dX9_reach_2 (k_isStreet σ hn hn8 _) rfl w_X9_isStreet lmX9_129 im_X9_isStreet se_X9_isStreet rfl (rfl) rfl (Nat.le_of_ble_eq_true rfl) rfl (by decide) (fun v_2 σ_2 h_2 => ?_)
  obtain ⟨rfl, z_2⟩ := h_2
  have z_2 := z_2.symm
  subst z_2
  refine x_if_ne (tgt := 11) dX9_reach_5 (by decide) (fun c_5 => (absurd (by rw [hs]; rfl) c_5)) (fun c_5 => ?_)
  refine x_bipush (v := -2) dX9_reach_8 (by decide) ?_
  exact s_iret dX9_reach_10 rfl (⟨rfl, rfl⟩)
set_option maxRecDepth 100000 in
theorem k_mpolls_u (σ : Sg) {n : Nat} (hn : σ 83 0 = nI n) (hn8 : n ≤ 8) (s : Int32)  (hs : inb n s = false) : Cm 12 YX9_polls [.ref 81, .int s] σ (fun v σ' => v = some (.int (-2)) ∧ σ' = σ) := by
  refine Cm_of (by decide +kernel) (Nat.le_of_ble_eq_true rfl) ?_
  refine x_aload_n dX9_polls_0 rfl ?_
  refine x_iload_n dX9_polls_1 rfl ?_
  refine s_callV dX9_polls_2 (k_isStreet σ hn hn8 _) rfl w_X9_isStreet lmX9_129 im_X9_isStreet se_X9_isStreet rfl (rfl) rfl (Nat.le_of_ble_eq_true rfl) rfl (by decide) (fun v_2 σ_2 h_2 => ?_)
  obtain ⟨rfl, z_2⟩ := h_2
  have z_2 := z_2.symm
  subst z_2
  refine x_if_ne (tgt := 11) dX9_polls_5 (by decide) (fun c_5 => (absurd (by rw [hs]; rfl) c_5)) (fun c_5 => ?_)
  refine x_bipush (v := -2) dX9_polls_8 (by decide) ?_
  exact s_iret dX9_polls_10 rfl (⟨rfl, rfl⟩)
set_option maxRecDepth 100000 in
theorem k_mwet_o (σ : Sg) {n k : Nat} (hn : σ 83 0 = nI n) (hn8 : n ≤ 8) (hk : k < n) (w : Int32) (h : rgF 0 30 w = false) : Cm 12 YX9_wet [.ref 81, .int (nI k), .int w] σ (fun v σ' => v = some (.int (-3)) ∧ σ' = σ) := by
  refine Cm_of (by decide +kernel) (Nat.le_of_ble_eq_true rfl) ?_
  refine x_aload_n dX9_wet_0 rfl ?_
  refine x_iload_n dX9_wet_1 rfl ?_
  refine s_callV dX9_wet_2 (k_isStreet σ hn hn8 _) rfl w_X9_isStreet lmX9_129 im_X9_isStreet se_X9_isStreet rfl (rfl) rfl (Nat.le_of_ble_eq_true rfl) rfl (by decide) (fun v_2 σ_2 h_2 => ?_)
  obtain ⟨rfl, z_2⟩ := h_2
  have z_2 := z_2.symm
  subst z_2
  refine x_if_ne (tgt := 11) dX9_wet_5 (by decide) (fun c_5 => ?_) (fun c_5 => (absurd c_5 (by rw [inb_nI hk (by omega)]; decide)))
  refine x_iload_n dX9_wet_11 rfl ?_
  refine x_iconst (v := 0) dX9_wet_12 (by decide) ?_
  refine x_bipush (v := 30) dX9_wet_13 (by decide) ?_
  refine s_callS dX9_wet_15 (k_in σ _ _ _) rfl w_X9_in lmX9_51 st_X9_in rfl (Nat.le_of_ble_eq_true rfl) rfl (by decide) (fun v_15 σ_15 h_15 => ?_)
  obtain ⟨rfl, z_15⟩ := h_15
  have z_15 := z_15.symm
  subst z_15
  refine x_if_ne (tgt := 24) dX9_wet_18 (by decide) (fun c_18 => (absurd (by rw [h]; rfl) c_18)) (fun c_18 => ?_)
  refine x_bipush (v := -3) dX9_wet_21 (by decide) ?_
  exact s_iret dX9_wet_23 rfl (⟨rfl, rfl⟩)
set_option maxRecDepth 100000 in
theorem k_mhose_o (σ : Sg) {n k : Nat} (hn : σ 83 0 = nI n) (hn8 : n ≤ 8) (hk : k < n) (w : Int32) (h : rgF 1 20 w = false) : Cm 12 YX9_hose [.ref 81, .int (nI k), .int w] σ (fun v σ' => v = some (.int (-3)) ∧ σ' = σ) := by
  refine Cm_of (by decide +kernel) (Nat.le_of_ble_eq_true rfl) ?_
  refine x_aload_n dX9_hose_0 rfl ?_
  refine x_iload_n dX9_hose_1 rfl ?_
  refine s_callV dX9_hose_2 (k_isStreet σ hn hn8 _) rfl w_X9_isStreet lmX9_129 im_X9_isStreet se_X9_isStreet rfl (rfl) rfl (Nat.le_of_ble_eq_true rfl) rfl (by decide) (fun v_2 σ_2 h_2 => ?_)
  obtain ⟨rfl, z_2⟩ := h_2
  have z_2 := z_2.symm
  subst z_2
  refine x_if_ne (tgt := 11) dX9_hose_5 (by decide) (fun c_5 => ?_) (fun c_5 => (absurd c_5 (by rw [inb_nI hk (by omega)]; decide)))
  refine x_iload_n dX9_hose_11 rfl ?_
  refine x_iconst (v := 1) dX9_hose_12 (by decide) ?_
  refine x_bipush (v := 20) dX9_hose_13 (by decide) ?_
  refine s_callS dX9_hose_15 (k_in σ _ _ _) rfl w_X9_in lmX9_51 st_X9_in rfl (Nat.le_of_ble_eq_true rfl) rfl (by decide) (fun v_15 σ_15 h_15 => ?_)
  obtain ⟨rfl, z_15⟩ := h_15
  have z_15 := z_15.symm
  subst z_15
  refine x_if_ne (tgt := 24) dX9_hose_18 (by decide) (fun c_18 => (absurd (by rw [h]; rfl) c_18)) (fun c_18 => ?_)
  refine x_bipush (v := -3) dX9_hose_21 (by decide) ?_
  exact s_iret dX9_hose_23 rfl (⟨rfl, rfl⟩)
set_option maxRecDepth 100000 in
theorem k_mpoll_o (σ : Sg) {n k : Nat} (hn : σ 83 0 = nI n) (hn8 : n ≤ 8) (hk : k < n) (w : Int32) (h : rgF 0 20 w = false) : Cm 12 YX9_poll [.ref 81, .int (nI k), .int w] σ (fun v σ' => v = some (.int (-3)) ∧ σ' = σ) := by
  refine Cm_of (by decide +kernel) (Nat.le_of_ble_eq_true rfl) ?_
  refine x_aload_n dX9_poll_0 rfl ?_
  refine x_iload_n dX9_poll_1 rfl ?_
  refine s_callV dX9_poll_2 (k_isStreet σ hn hn8 _) rfl w_X9_isStreet lmX9_129 im_X9_isStreet se_X9_isStreet rfl (rfl) rfl (Nat.le_of_ble_eq_true rfl) rfl (by decide) (fun v_2 σ_2 h_2 => ?_)
  obtain ⟨rfl, z_2⟩ := h_2
  have z_2 := z_2.symm
  subst z_2
  refine x_if_ne (tgt := 11) dX9_poll_5 (by decide) (fun c_5 => ?_) (fun c_5 => (absurd c_5 (by rw [inb_nI hk (by omega)]; decide)))
  refine x_iload_n dX9_poll_11 rfl ?_
  refine x_iconst (v := 0) dX9_poll_12 (by decide) ?_
  refine x_bipush (v := 20) dX9_poll_13 (by decide) ?_
  refine s_callS dX9_poll_15 (k_in σ _ _ _) rfl w_X9_in lmX9_51 st_X9_in rfl (Nat.le_of_ble_eq_true rfl) rfl (by decide) (fun v_15 σ_15 h_15 => ?_)
  obtain ⟨rfl, z_15⟩ := h_15
  have z_15 := z_15.symm
  subst z_15
  refine x_if_ne (tgt := 24) dX9_poll_18 (by decide) (fun c_18 => (absurd (by rw [h]; rfl) c_18)) (fun c_18 => ?_)
  refine x_bipush (v := -3) dX9_poll_21 (by decide) ?_
  exact s_iret dX9_poll_23 rfl (⟨rfl, rfl⟩)
set_option maxRecDepth 100000 in
theorem k_mas_o (σ : Sg) {n k : Nat} (hn : σ 83 0 = nI n) (hn8 : n ≤ 8) (hk : k < n) (w : Int32) (h : rgF 0 4 w = false) : Cm 12 YX9_as [.ref 81, .int (nI k), .int w] σ (fun v σ' => v = some (.int (-3)) ∧ σ' = σ) := by
  refine Cm_of (by decide +kernel) (Nat.le_of_ble_eq_true rfl) ?_
  refine x_aload_n dX9_as_0 rfl ?_
  refine x_iload_n dX9_as_1 rfl ?_
  refine s_callV dX9_as_2 (k_isStreet σ hn hn8 _) rfl w_X9_isStreet lmX9_129 im_X9_isStreet se_X9_isStreet rfl (rfl) rfl (Nat.le_of_ble_eq_true rfl) rfl (by decide) (fun v_2 σ_2 h_2 => ?_)
  obtain ⟨rfl, z_2⟩ := h_2
  have z_2 := z_2.symm
  subst z_2
  refine x_if_ne (tgt := 11) dX9_as_5 (by decide) (fun c_5 => ?_) (fun c_5 => (absurd c_5 (by rw [inb_nI hk (by omega)]; decide)))
  refine x_iload_n dX9_as_11 rfl ?_
  refine x_iconst (v := 0) dX9_as_12 (by decide) ?_
  refine x_iconst (v := 4) dX9_as_13 (by decide) ?_
  refine s_callS dX9_as_14 (k_in σ _ _ _) rfl w_X9_in lmX9_51 st_X9_in rfl (Nat.le_of_ble_eq_true rfl) rfl (by decide) (fun v_14 σ_14 h_14 => ?_)
  obtain ⟨rfl, z_14⟩ := h_14
  have z_14 := z_14.symm
  subst z_14
  refine x_if_ne (tgt := 23) dX9_as_17 (by decide) (fun c_17 => (absurd (by rw [h]; rfl) c_17)) (fun c_17 => ?_)
  refine x_bipush (v := -3) dX9_as_20 (by decide) ?_
  exact s_iret dX9_as_22 rfl (⟨rfl, rfl⟩)
set_option maxRecDepth 100000 in
theorem k_mwet (σ : Sg) {n k N : Nat} (hn : σ 83 0 = nI n) (hp : Wp (plM n σ 83)) (ho : Wm n (moS n σ)) (hb : NB σ) (hk : k < n) (h2 : N ≤ 30) : Cm 12 YX9_wet [.ref 81, .int (nI k), .int (nI N)] σ (fun v σ' => v = some (.int ((itF (plM n σ 83) (moS n σ) N).1 k)) ∧ fM σ σ') := by
  refine Cm_of (by decide +kernel) (Nat.le_of_ble_eq_true rfl) ?_
  have hn8 : n ≤ 8 := hp.1
  refine x_aload_n dX9_wet_0 rfl ?_
  refine x_iload_n dX9_wet_1 rfl ?_
  refine s_callV dX9_wet_2 (k_isStreet σ hn hn8 _) rfl w_X9_isStreet lmX9_129 im_X9_isStreet se_X9_isStreet rfl (rfl) rfl (Nat.le_of_ble_eq_true rfl) rfl (by decide) (fun v_2 σ_2 h_2 => ?_)
  obtain ⟨rfl, z_2⟩ := h_2
  have z_2 := z_2.symm
  subst z_2
  refine x_if_ne (tgt := 11) dX9_wet_5 (by decide) (fun c_5 => ?_) (fun c_5 => (absurd c_5 (by rw [inb_nI hk (by omega)]; decide)))
  refine x_iload_n dX9_wet_11 rfl ?_
  refine x_iconst (v := 0) dX9_wet_12 (by decide) ?_
  refine x_bipush (v := 30) dX9_wet_13 (by decide) ?_
  refine s_callS dX9_wet_15 (k_in σ _ _ _) rfl w_X9_in lmX9_51 st_X9_in rfl (Nat.le_of_ble_eq_true rfl) rfl (by decide) (fun v_15 σ_15 h_15 => ?_)
  obtain ⟨rfl, z_15⟩ := h_15
  have z_15 := z_15.symm
  subst z_15
  refine x_if_ne (tgt := 24) dX9_wet_18 (by decide) (fun c_18 => ?_) (fun c_18 => (absurd c_18 (by rw [show rgF 0 30 (nI N) = true from rgF_i (a := 0) (b := 30) (by omega) h2 (by decide)]; decide)))
  refine x_aload_n dX9_wet_24 rfl ?_
  refine s_callV dX9_wet_25 (k_holds σ) rfl w_X9_holds lmX9_145 im_X9_holds se_X9_holds rfl (rfl) rfl (Nat.le_of_ble_eq_true rfl) rfl (by decide) (fun v_25 σ_25 h_25 => ?_)
  obtain ⟨rfl, W, hW, z⟩ := h_25
  have es := z
  refine x_aload_n dX9_wet_28 rfl ?_
  refine x_iload_n dX9_wet_29 rfl ?_
  refine s_callV dX9_wet_30 (k_passes σ_25 (n := n) (by rw [es]; exact hn) (by rw [es]; exact hp) (by rw [es]; exact ho) (by rw [es]; exact hb) (by omega)) rfl w_X9_passes lmX9_148 im_X9_passes se_X9_passes rfl (rfl) rfl (Nat.le_of_ble_eq_true rfl) rfl (by decide) (fun v_30 σ_30 h_30 => ?_)
  obtain ⟨rfl, pm, pf⟩ := h_30
  have pm : moS n σ_30 = itF (plM n σ 83) (moS n σ) N := by rw [pm, es]; rfl
  refine x_aload_n dX9_wet_33 rfl ?_
  refine s_getr (ci := 9) (k := 4) (N := 20) (C := RX9) (T := TX9) dX9_wet_34 lfX9_19 inX9 rfl (by decide) (rfl) rfl ?_
  refine x_iload_n dX9_wet_37 rfl ?_
  refine s_iald dX9_wet_38 (rfl) (hi := rfl) (hj := by omega) (hn := by decide) ?_
  refine x_istore_n dX9_wet_39 (Nat.le_of_ble_eq_true rfl) rfl ?_
  refine x_aload_n dX9_wet_40 rfl ?_
  refine s_callV dX9_wet_41 (k_lets _) rfl w_X9_lets lmX9_151 im_X9_lets se_X9_lets rfl (rfl) rfl (Nat.le_of_ble_eq_true rfl) rfl (by decide) (fun v_41 σ_41 h_41 => ?_)
  obtain ⟨rfl, W2, hW2, es2⟩ := h_41
  refine x_iload_n dX9_wet_44 rfl ?_
  exact s_iret dX9_wet_45 rfl (⟨by rw [← pm]; exact congrArg (fun z => some (Value.int z)) (tr_i (f := σ_30 85) hk).symm, lets_fM (n := n) hW es pf hW2 es2⟩)
