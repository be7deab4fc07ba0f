/-! ===== Ballot ===== -/
def chF (p : PL) (w : FN) (k : Nat) : Int32 := if p.2.2.2.1 k = 2 then -1 else if p.2.2.2.1 k = 3 then drF w (nI k) p.1 else if saF w p.2.2.2.1 p.2.2.2.2.1 k = true then drF w (-1) p.1 else nI k
theorem drF_inb {w : FN} {but : Int32} {n : Nat} (hn : n ≤ 1000) : drF w but n = -1 ∨ inb n (drF w but n) = true := by
  rcases drF_in w but n with h | ⟨j, h1, h2⟩
  · exact Or.inl h
  · exact Or.inr (by rw [h2]; exact inb_nI h1 hn)
theorem chF_inb {p : PL} {w : FN} {k : Nat} (hn : p.1 ≤ 1000) (hk : k < p.1) : chF p w k = -1 ∨ inb p.1 (chF p w k) = true := by
  unfold chF
  split
  · exact Or.inl rfl
  · split
    · exact drF_inb hn
    · split
      · exact drF_inb hn
      · exact Or.inr (inb_nI hk hn)
set_option maxRecDepth 100000 in
theorem k_choiceOf (σ : Sg) {n m k : Nat} (hm : xMo m) (hn : σ 3 5 = nI n) (hn8 : n ≤ 8) (hk : k < n) : Cm 2 YX0_choiceOf [.ref 3, .ref m, .int (nI k)] σ (fun v σ' => v = some (.int (chF (plC n σ) (tr n (σ (m + 1))) k)) ∧ σ' = σ) := by
  refine Cm_of (by decide +kernel) (Nat.le_of_ble_eq_true rfl) ?_
  have e : (plC n σ).2.2.2.1 k = σ 4 k := tr_i hk
  have key : ∀ x : Int32, x = chF (plC n σ) (tr n (σ (m + 1))) k → some (Value.int x) = some (.int (chF (plC n σ) (tr n (σ (m + 1))) k)) ∧ σ = σ := fun x h => ⟨by rw [h], rfl⟩
  refine x_aload_n dX0_choiceOf_0 rfl ?_
  refine x_iload_n dX0_choiceOf_1 rfl ?_
  refine s_callV dX0_choiceOf_2 (k_has σ pl_3 hn hn8 (nI k)) rfl w_X3_has lmX0_22 im_X3_has se_X3_has rfl (rfl) rfl (Nat.le_of_ble_eq_true rfl) rfl (by decide) (fun v_2 σ_2 h_2 => ?_)
  obtain ⟨rfl, z_2⟩ := h_2
  have z_2 := z_2.symm
  subst z_2
  refine x_if_eq (tgt := 18) dX0_choiceOf_5 (by decide) (fun c_5 => (absurd c_5 (by rw [inb_nI hk (by omega)]; decide))) (fun c_5 => ?_)
  refine x_aload_n dX0_choiceOf_8 rfl ?_
  refine s_getrN (ci := 3) (k := 0) (N := 8) (C := RX3) (T := TX3) dX0_choiceOf_9 lfX0_28 inX3 rfl (by decide) (rfl) rfl ?_
  refine x_iload_n dX0_choiceOf_12 rfl ?_
  refine s_iald dX0_choiceOf_13 (rfl) (hi := rfl) (hj := by omega) (hn := by decide) ?_
  refine x_iconst (v := 2) dX0_choiceOf_14 (by decide) ?_
  refine x_icmp_ne (tgt := 20) dX0_choiceOf_15 (by decide) (fun c_15 => ?_) (fun c_15 => ?_)
  · refine x_aload_n dX0_choiceOf_20 rfl ?_
    refine s_getrN (ci := 3) (k := 0) (N := 8) (C := RX3) (T := TX3) dX0_choiceOf_21 lfX0_28 inX3 rfl (by decide) (rfl) rfl ?_
    refine x_iload_n dX0_choiceOf_24 rfl ?_
    refine s_iald dX0_choiceOf_25 (rfl) (hi := rfl) (hj := by omega) (hn := by decide) ?_
    refine x_iconst (v := 3) dX0_choiceOf_26 (by decide) ?_
    refine x_icmp_ne (tgt := 37) dX0_choiceOf_27 (by decide) (fun c_27 => ?_) (fun c_27 => ?_)
    · refine x_aload_n dX0_choiceOf_37 rfl ?_
      refine x_aload_n dX0_choiceOf_38 rfl ?_
      refine x_iload_n dX0_choiceOf_39 rfl ?_
      refine s_callV dX0_choiceOf_40 (k_isContent σ hm hn hn8 hk) rfl w_X1_isContent lmX0_37 im_X1_isContent se_X1_isContent rfl (hm.1) rfl (Nat.le_of_ble_eq_true rfl) rfl (by decide) (fun v_40 σ_40 h_40 => ?_)
      obtain ⟨rfl, z_40⟩ := h_40
      have z_40 := z_40.symm
      subst z_40
      refine x_if_eq (tgt := 55) dX0_choiceOf_43 (by decide) (fun c_43 => ?_) (fun c_43 => ?_)
      · refine x_iload_n dX0_choiceOf_55 rfl ?_
        exact s_iret dX0_choiceOf_56 rfl (by
            refine key _ ?_
            unfold chF
            rw [e]
            first
              | (rw [if_pos (by assumption)]; done)
              | (rw [if_neg c_15, if_pos c_27]; rfl)
              | (rw [if_neg c_15, if_neg c_27, if_pos (show saF (tr n (σ (m + 1))) (plC n σ).2.2.2.1 (plC n σ).2.2.2.2.1 k = true from bI_n c_43)]; rfl)
              | (rw [if_neg c_15, if_neg c_27, if_neg (show ¬ saF (tr n (σ (m + 1))) (plC n σ).2.2.2.1 (plC n σ).2.2.2.2.1 k = true from fun h => by rw [bI_0] at c_43; exact Bool.noConfusion (h.symm.trans c_43))]))
      · refine x_aload_n dX0_choiceOf_46 rfl ?_
        refine x_aload_n dX0_choiceOf_47 rfl ?_
        refine x_iconst (v := -1) dX0_choiceOf_48 (by decide) ?_
        refine s_callV dX0_choiceOf_49 (k_driest σ _ hm hn hn8) rfl w_X1_driest lmX0_31 im_X1_driest se_X1_driest rfl (hm.1) rfl (Nat.le_of_ble_eq_true rfl) rfl (by decide) (fun v_49 σ_49 h_49 => ?_)
        obtain ⟨rfl, z_49⟩ := h_49
        have z_49 := z_49.symm
        subst z_49
        refine x_goto (tgt := 56) dX0_choiceOf_52 (by decide) ?_
        exact s_iret dX0_choiceOf_56 rfl (by
            refine key _ ?_
            unfold chF
            rw [e]
            first
              | (rw [if_pos (by assumption)]; done)
              | (rw [if_neg c_15, if_pos c_27]; rfl)
              | (rw [if_neg c_15, if_neg c_27, if_pos (show saF (tr n (σ (m + 1))) (plC n σ).2.2.2.1 (plC n σ).2.2.2.2.1 k = true from bI_n c_43)]; rfl)
              | (rw [if_neg c_15, if_neg c_27, if_neg (show ¬ saF (tr n (σ (m + 1))) (plC n σ).2.2.2.1 (plC n σ).2.2.2.2.1 k = true from fun h => by rw [bI_0] at c_43; exact Bool.noConfusion (h.symm.trans c_43))]))
    · refine x_aload_n dX0_choiceOf_30 rfl ?_
      refine x_aload_n dX0_choiceOf_31 rfl ?_
      refine x_iload_n dX0_choiceOf_32 rfl ?_
      refine s_callV dX0_choiceOf_33 (k_driest σ _ hm hn hn8) rfl w_X1_driest lmX0_31 im_X1_driest se_X1_driest rfl (hm.1) rfl (Nat.le_of_ble_eq_true rfl) rfl (by decide) (fun v_33 σ_33 h_33 => ?_)
      obtain ⟨rfl, z_33⟩ := h_33
      have z_33 := z_33.symm
      subst z_33
      exact s_iret dX0_choiceOf_36 rfl (by
          refine key _ ?_
          unfold chF
          rw [e]
          first
            | (rw [if_pos (by assumption)]; done)
            | (rw [if_neg c_15, if_pos c_27]; rfl)
            | (rw [if_neg c_15, if_neg c_27, if_pos (show saF (tr n (σ (m + 1))) (plC n σ).2.2.2.1 (plC n σ).2.2.2.2.1 k = true from bI_n c_43)]; rfl)
            | (rw [if_neg c_15, if_neg c_27, if_neg (show ¬ saF (tr n (σ (m + 1))) (plC n σ).2.2.2.1 (plC n σ).2.2.2.2.1 k = true from fun h => by rw [bI_0] at c_43; exact Bool.noConfusion (h.symm.trans c_43))]))
  · refine x_iconst (v := -1) dX0_choiceOf_18 (by decide) ?_
    exact s_iret dX0_choiceOf_19 rfl (by
        refine key _ ?_
        unfold chF
        rw [e]
        first
          | (rw [if_pos (by assumption)]; done)
          | (rw [if_neg c_15, if_pos c_27]; rfl)
          | (rw [if_neg c_15, if_neg c_27, if_pos (show saF (tr n (σ (m + 1))) (plC n σ).2.2.2.1 (plC n σ).2.2.2.2.1 k = true from bI_n c_43)]; rfl)
          | (rw [if_neg c_15, if_neg c_27, if_neg (show ¬ saF (tr n (σ (m + 1))) (plC n σ).2.2.2.1 (plC n σ).2.2.2.2.1 k = true from fun h => by rw [bI_0] at c_43; exact Bool.noConfusion (h.symm.trans c_43))]))

set_option maxRecDepth 100000 in
theorem l_choose {n m : Nat} (hm : xMo m) (hn8 : n ≤ 8) (σ0 : Sg) (h0n : σ0 3 5 = nI n) : ∀ (j k : Nat) (C : FN), k + j = n → (∀ i, i < k → C i = chF (plC n σ0) (tr n (σ0 (m + 1))) i) →
    Ex (YX0_choose, 3, xB0, none) 10 [.ref 59, .ref 3, .ref m, .int (nI k)] [] (xMs (sw (sg σ0 59 2 (nI n)) 60 C)) (xQ (fun v σ' => v = none ∧ ∃ C', (∀ i, i < n → C' i = chF (plC n σ0) (tr n (σ0 (m + 1))) i) ∧ σ' = sw (sg σ0 59 2 (nI n)) 60 C')) := by
  obtain ⟨q1, q2, q3⟩ := xMo_far (c := 60) hm (by decide)
  obtain ⟨r1, r2, r3⟩ := xMo_far (c := 59) hm (by decide)
  intro j
  induction j with
  | zero =>
    intro k C hk hC
    have hk : k = n := by omega
    subst hk
    have hn : sw (sg σ0 59 2 (nI k)) 60 C 59 2 = nI k := by rw [sw_n _ _ (by decide), sg_s]
    refine x_iload_n dX0_choose_10 rfl ?_
    refine x_aload_n dX0_choose_11 rfl ?_
    refine s_geti (ci := 0) (k := 2) (N := 3) (C := RX0) (T := TX0) dX0_choose_12 lfX0_18 inX0 rfl (by decide) (rfl) rfl ?_
    refine x_icmp_ge (tgt := 36) dX0_choose_15 (by decide) (fun c_15 => ?_) (fun c_15 => (absurd (by rw [hn]; exact Int32.le_refl _) c_15))
    exact s_ret dX0_choose_36 rfl (⟨rfl, C, hC, rfl⟩)
  | succ j ih =>
    intro k C hk hC
    have hkn : k < n := by omega
    have hn : sw (sg σ0 59 2 (nI n)) 60 C 59 2 = nI n := by rw [sw_n _ _ (by decide), sg_s]
    have e1 : plC n (sw (sg σ0 59 2 (nI n)) 60 C) = plC n σ0 := rfl
    have e2 : sw (sg σ0 59 2 (nI n)) 60 C (m + 1) = σ0 (m + 1) := by rw [sw_n _ _ q2.symm, sg_n _ _ _ r2.symm]
    have kc := k_choiceOf (sw (sg σ0 59 2 (nI n)) 60 C) hm (by exact h0n) hn8 hkn
    rw [e1, e2] at kc
    refine x_iload_n dX0_choose_10 rfl ?_
    refine x_aload_n dX0_choose_11 rfl ?_
    refine s_geti (ci := 0) (k := 2) (N := 3) (C := RX0) (T := TX0) dX0_choose_12 lfX0_18 inX0 rfl (by decide) (rfl) rfl ?_
    refine x_icmp_ge (tgt := 36) dX0_choose_15 (by decide) (fun c_15 => (absurd c_15 (by rw [hn]; exact nI_ge hkn (by omega)))) (fun c_15 => ?_)
    refine x_aload_n dX0_choose_18 rfl ?_
    refine s_getr (ci := 0) (k := 0) (N := 3) (C := RX0) (T := TX0) dX0_choose_19 lfX0_9 inX0 rfl (by decide) (rfl) rfl ?_
    refine x_iload_n dX0_choose_22 rfl ?_
    refine x_aload_n dX0_choose_23 rfl ?_
    refine x_aload_n dX0_choose_24 rfl ?_
    refine x_iload_n dX0_choose_25 rfl ?_
    refine s_callS dX0_choose_26 (kc) rfl w_X0_choiceOf lmX0_42 st_X0_choiceOf rfl (Nat.le_of_ble_eq_true rfl) rfl (by decide) (fun v_26 σ_26 h_26 => ?_)
    obtain ⟨rfl, z_26⟩ := h_26
    have z_26 := z_26.symm
    subst z_26
    refine s_iast dX0_choose_29 (rfl) (hi := rfl) (hj := by omega) (hn := by decide) ?_
    refine s_iinc dX0_choose_30 rfl (by decide) rfl ?_
    refine x_goto (tgt := 10) dX0_choose_33 (by decide) ?_
    rw [sg_def _ 60, sw_sw, sw_s]
    refine ih (k + 1) _ (by omega) (fun i hi => ?_)
    unfold upd
    by_cases e : i = k
    · rw [if_pos e, e]
    · rw [if_neg e]
      exact hC i (by omega)
set_option maxRecDepth 100000 in
theorem k_choose (σ : Sg) {n m : Nat} (hm : xMo m) (hn : σ 3 5 = nI n) (hn8 : n ≤ 8) : Cm 3 YX0_choose [.ref 59, .ref 3, .ref m] σ (fun v σ' => v = none ∧ ∃ C', (∀ i, i < n → C' i = chF (plC n σ) (tr n (σ (m + 1))) i) ∧ σ' = sw (sg σ 59 2 (nI n)) 60 C') := by
  refine Cm_of (by decide +kernel) (Nat.le_of_ble_eq_true rfl) ?_
  refine x_aload_n dX0_choose_0 rfl ?_
  refine x_aload_n dX0_choose_1 rfl ?_
  refine s_getiN (ci := 3) (k := 5) (N := 8) (C := RX3) (T := TX3) dX0_choose_2 lfX0_41 inX3 rfl (by decide) (rfl) rfl ?_
  refine s_puti (ci := 0) (k := 2) (N := 3) (C := RX0) (T := TX0) (ty0 := tyX0) dX0_choose_5 lfX0_18 inX0 tyX0_ok nmX0 rfl (by decide) rfl rfl (rfl) rfl ?_
  refine x_iconst (v := 0) dX0_choose_8 (by decide) ?_
  refine x_istore_n dX0_choose_9 (by decide) rfl ?_
  have h := l_choose hm hn8 σ hn n 0 (sg σ 59 2 (nI n) 60) (by omega) (fun i hi => by omega)
  rw [sw_id] at h
  rw [hn]
  exact h
def toF (ch : FN) (turned : Nat) (toward : Int32) (k : Nat) : Int32 := if turned.testBit k = true then toward else ch k
/-- the votes of the first k streets -/
def voF (n : Nat) (ch vo : FN) (r : Int32) (home turned : Nat) (toward : Int32) : Nat → FN
  | 0 => fun _ => 0
  | k + 1 => if home.testBit k = false ∧ ¬ toF ch turned toward k = r ∧ inb n (toF ch turned toward k) = true then upd (voF n ch vo r home turned toward k) (toF ch turned toward k).toNatClampNeg (voF n ch vo r home turned toward k (toF ch turned toward k).toNatClampNeg + vo k) else voF n ch vo r home turned toward k
theorem voF_n {n : Nat} {ch vo : FN} {r : Int32} {home turned : Nat} {toward : Int32} {k : Nat} (h : ¬ (home.testBit k = false ∧ ¬ toF ch turned toward k = r ∧ inb n (toF ch turned toward k) = true)) : voF n ch vo r home turned toward (k + 1) = voF n ch vo r home turned toward k := if_neg h
theorem voF_s {n : Nat} {ch vo : FN} {r : Int32} {home turned : Nat} {toward : Int32} {k j : Nat} (h1 : home.testBit k = false) (h2 : ¬ toF ch turned toward k = r) (h3 : j < n) (hn : n ≤ 1000) (h4 : toF ch turned toward k = nI j) : voF n ch vo r home turned toward (k + 1) = upd (voF n ch vo r home turned toward k) j (voF n ch vo r home turned toward k j + vo k) := by
  have e : (nI j).toNatClampNeg = j := nI_clamp (by omega)
  rw [h4] at h2
  show (if _ then _ else _) = _
  rw [h4, e, if_pos ⟨h1, h2, inb_nI h3 hn⟩]
theorem voF_congr {n : Nat} {ch ch' vo vo' : FN} {r : Int32} {home turned : Nat} {toward : Int32} : ∀ k, (∀ i, i < k → ch i = ch' i ∧ vo i = vo' i) → voF n ch vo r home turned toward k = voF n ch' vo' r home turned toward k := by
  intro k
  induction k with
  | zero => intro _; rfl
  | succ k ih =>
    intro h
    have e := ih (fun i hi => h i (by omega))
    obtain ⟨e1, e2⟩ := h k (by omega)
    have e3 : toF ch turned toward k = toF ch' turned toward k := by unfold toF; rw [e1]
    unfold voF
    rw [e, e2, e3]
def wnF (v : FN) : Nat → Int32 × Int32
  | 0 => (-1, 0)
  | k + 1 => if (wnF v k).2 < v k then (nI k, v k) else if v k = (wnF v k).2 then (-1, (wnF v k).2) else wnF v k
theorem wnF_congr {v v' : FN} : ∀ k, (∀ i, i < k → v i = v' i) → wnF v k = wnF v' k := by
  intro k
  induction k with
  | zero => intro _; rfl
  | succ k ih => intro h; unfold wnF; rw [ih (fun i hi => h i (by omega)), h k (by omega)]
theorem wnF_in (v : FN) : ∀ k, (wnF v k).1 = -1 ∨ ∃ j, j < k ∧ (wnF v k).1 = nI j := by
  intro k
  induction k with
  | zero => exact Or.inl rfl
  | succ k ih =>
    unfold wnF
    split
    · exact Or.inr ⟨k, Nat.lt_succ_self k, rfl⟩
    · split
      · exact Or.inl rfl
      · rcases ih with h | ⟨j, h1, h2⟩
        · exact Or.inl h
        · exact Or.inr ⟨j, by omega, h2⟩
set_option maxRecDepth 100000 in
theorem l_winner (σ : Sg) {n : Nat} (hn : σ 59 2 = nI n) (hn8 : n ≤ 8) : ∀ (j k : Nat), k + j = n → Ex (YX0_winner, 0, xB0, none) 6 [.ref 59, .int (wnF (σ 61) k).1, .int (wnF (σ 61) k).2, .int (nI k)] [] (xMs σ) (xQ (fun v σ' => v = some (.int (wnF (σ 61) n).1) ∧ σ' = σ)) := by
  intro j
  induction j with
  | zero =>
    intro k hk
    have hk : k = n := by omega
    subst hk
    refine x_iload_n dX0_winner_6 rfl ?_
    refine x_aload_n dX0_winner_7 rfl ?_
    refine s_geti (ci := 0) (k := 2) (N := 3) (C := RX0) (T := TX0) dX0_winner_8 lfX0_18 inX0 rfl (by decide) (rfl) rfl ?_
    refine x_icmp_ge (tgt := 54) dX0_winner_11 (by decide) (fun c_11 => ?_) (fun c_11 => (absurd (by rw [hn]; exact Int32.le_refl _) c_11))
    refine x_iload_n dX0_winner_54 rfl ?_
    exact s_iret dX0_winner_55 rfl (⟨rfl, rfl⟩)
  | succ j ih =>
    intro k hk
    have hkn : k < n := by omega
    have step : ∀ x y : Int32, wnF (σ 61) (k + 1) = (x, y) → Ex (YX0_winner, 0, xB0, none) 6 [.ref 59, .int x, .int y, .int (nI (k + 1))] [] (xMs σ) (xQ (fun v σ' => v = some (.int (wnF (σ 61) n).1) ∧ σ' = σ)) := fun x y hx => by
      have h := ih (k + 1) (by omega)
      rw [hx] at h
      exact h
    refine x_iload_n dX0_winner_6 rfl ?_
    refine x_aload_n dX0_winner_7 rfl ?_
    refine s_geti (ci := 0) (k := 2) (N := 3) (C := RX0) (T := TX0) dX0_winner_8 lfX0_18 inX0 rfl (by decide) (rfl) rfl ?_
    refine x_icmp_ge (tgt := 54) dX0_winner_11 (by decide) (fun c_11 => (absurd c_11 (by rw [hn]; exact nI_ge hkn (by omega)))) (fun c_11 => ?_)
    refine x_aload_n dX0_winner_14 rfl ?_
    refine s_getr (ci := 0) (k := 1) (N := 3) (C := RX0) (T := TX0) dX0_winner_15 lfX0_15 inX0 rfl (by decide) (rfl) rfl ?_
    refine x_iload_n dX0_winner_18 rfl ?_
    refine s_iald dX0_winner_19 (rfl) (hi := rfl) (hj := by omega) (hn := by decide) ?_
    refine x_iload_n dX0_winner_20 rfl ?_
    refine x_icmp_le (tgt := 36) dX0_winner_21 (by decide) (fun c_21 => ?_) (fun c_21 => ?_)
    · refine x_aload_n dX0_winner_36 rfl ?_
      refine s_getr (ci := 0) (k := 1) (N := 3) (C := RX0) (T := TX0) dX0_winner_37 lfX0_15 inX0 rfl (by decide) (rfl) rfl ?_
      refine x_iload_n dX0_winner_40 rfl ?_
      refine s_iald dX0_winner_41 (rfl) (hi := rfl) (hj := by omega) (hn := by decide) ?_
      refine x_iload_n dX0_winner_42 rfl ?_
      refine x_icmp_ne (tgt := 48) dX0_winner_43 (by decide) (fun c_43 => ?_) (fun c_43 => ?_)
      · refine s_iinc dX0_winner_48 rfl (by decide) rfl ?_
        refine x_goto (tgt := 6) dX0_winner_51 (by decide) ?_
        first
          | exact step _ _ (if_pos (Int32.not_le.mp c_21))
          | exact step _ _ ((if_neg (Int32.not_lt.mpr c_21)).trans (if_pos c_43))
          | exact step _ _ ((if_neg (Int32.not_lt.mpr c_21)).trans (if_neg c_43))
      · refine x_iconst (v := -1) dX0_winner_46 (by decide) ?_
        refine x_istore_n dX0_winner_47 (by decide) rfl ?_
        refine s_iinc dX0_winner_48 rfl (by decide) rfl ?_
        refine x_goto (tgt := 6) dX0_winner_51 (by decide) ?_
        first
          | exact step _ _ (if_pos (Int32.not_le.mp c_21))
          | exact step _ _ ((if_neg (Int32.not_lt.mpr c_21)).trans (if_pos c_43))
          | exact step _ _ ((if_neg (Int32.not_lt.mpr c_21)).trans (if_neg c_43))
    · refine x_aload_n dX0_winner_24 rfl ?_
      refine s_getr (ci := 0) (k := 1) (N := 3) (C := RX0) (T := TX0) dX0_winner_25 lfX0_15 inX0 rfl (by decide) (rfl) rfl ?_
      refine x_iload_n dX0_winner_28 rfl ?_
      refine s_iald dX0_winner_29 (rfl) (hi := rfl) (hj := by omega) (hn := by decide) ?_
      refine x_istore_n dX0_winner_30 (by decide) rfl ?_
      refine x_iload_n dX0_winner_31 rfl ?_
      refine x_istore_n dX0_winner_32 (by decide) rfl ?_
      refine x_goto (tgt := 48) dX0_winner_33 (by decide) ?_
      refine s_iinc dX0_winner_48 rfl (by decide) rfl ?_
      refine x_goto (tgt := 6) dX0_winner_51 (by decide) ?_
      first
        | exact step _ _ (if_pos (Int32.not_le.mp c_21))
        | exact step _ _ ((if_neg (Int32.not_lt.mpr c_21)).trans (if_pos c_43))
        | exact step _ _ ((if_neg (Int32.not_lt.mpr c_21)).trans (if_neg c_43))
set_option maxRecDepth 100000 in
theorem k_winner (σ : Sg) {n : Nat} (hn : σ 59 2 = nI n) (hn8 : n ≤ 8) : Cm 0 YX0_winner [.ref 59] σ (fun v σ' => v = some (.int (wnF (σ 61) n).1) ∧ σ' = σ) := by
  refine Cm_of (by decide +kernel) (Nat.le_of_ble_eq_true rfl) ?_
  refine x_iconst (v := -1) dX0_winner_0 (by decide) ?_
  refine x_istore_n dX0_winner_1 (by decide) rfl ?_
  refine x_iconst (v := 0) dX0_winner_2 (by decide) ?_
  refine x_istore_n dX0_winner_3 (by decide) rfl ?_
  refine x_iconst (v := 0) dX0_winner_4 (by decide) ?_
  refine x_istore_n dX0_winner_5 (by decide) rfl ?_
  exact l_winner σ hn hn8 n 0 (by omega)

set_option maxRecDepth 100000 in
theorem l_tally1 {n m : Nat} {home turned toward : Int32} {V6 V7 : Value} (hn8 : n ≤ 8) (σ0 : Sg) (h0n : σ0 59 2 = nI n) (P : Option Value → Sg → Prop) (hk : ∀ V : FN, (∀ i, i < n → V i = 0) → Ex (YX0_tallyAll, 0, xB0, none) 29 [.ref 59, .ref m, .int home, .int turned, .int toward, .int (nI 0), V6, V7] [] (xMs (sw σ0 61 V)) (xQ P)) : ∀ (j k : Nat) (V : FN), k + j = n → (∀ i, i < k → V i = 0) →
    Ex (YX0_tallyAll, 0, xB0, none) 3 [.ref 59, .ref m, .int home, .int turned, .int toward, .int (nI k), V6, V7] [] (xMs (sw σ0 61 V)) (xQ P) := by
  intro j
  induction j with
  | zero =>
    intro k V hk0 hV
    have hk1 : k = n := by omega
    subst hk1
    have hn : sw σ0 61 V 59 2 = nI k := by rw [sw_n _ _ (by decide)]; exact h0n
    refine x_iload dX0_tallyAll_3 rfl ?_
    refine x_aload_n dX0_tallyAll_5 rfl ?_
    refine s_geti (ci := 0) (k := 2) (N := 3) (C := RX0) (T := TX0) dX0_tallyAll_6 lfX0_18 inX0 rfl (by decide) (rfl) rfl ?_
    refine x_icmp_ge (tgt := 26) dX0_tallyAll_9 (by decide) (fun c_9 => ?_) (fun c_9 => (absurd (by rw [hn]; exact Int32.le_refl _) c_9))
    refine x_iconst (v := 0) dX0_tallyAll_26 (by decide) ?_
    refine x_istore dX0_tallyAll_27 (by decide) rfl ?_
    exact hk V hV
  | succ j ih =>
    intro k V hk0 hV
    have hkn : k < n := by omega
    have hn : sw σ0 61 V 59 2 = nI n := by rw [sw_n _ _ (by decide)]; exact h0n
    refine x_iload dX0_tallyAll_3 rfl ?_
    refine x_aload_n dX0_tallyAll_5 rfl ?_
    refine s_geti (ci := 0) (k := 2) (N := 3) (C := RX0) (T := TX0) dX0_tallyAll_6 lfX0_18 inX0 rfl (by decide) (rfl) rfl ?_
    refine x_icmp_ge (tgt := 26) dX0_tallyAll_9 (by decide) (fun c_9 => (absurd c_9 (by rw [hn]; exact nI_ge hkn (by omega)))) (fun c_9 => ?_)
    refine x_aload_n dX0_tallyAll_12 rfl ?_
    refine s_getr (ci := 0) (k := 1) (N := 3) (C := RX0) (T := TX0) dX0_tallyAll_13 lfX0_15 inX0 rfl (by decide) (rfl) rfl ?_
    refine x_iload dX0_tallyAll_16 rfl ?_
    refine x_iconst (v := 0) dX0_tallyAll_18 (by decide) ?_
    refine s_iast dX0_tallyAll_19 (rfl) (hi := rfl) (hj := by omega) (hn := by decide) ?_
    refine s_iinc dX0_tallyAll_20 rfl (by decide) rfl ?_
    refine x_goto (tgt := 3) dX0_tallyAll_23 (by decide) ?_
    rw [sg_def _ 61, sw_sw, sw_s]
    refine ih (k + 1) _ (by omega) (fun i hi => ?_)
    unfold upd
    by_cases e : i = k
    · rw [if_pos e]
    · rw [if_neg e]
      exact hV i (by omega)
set_option maxRecDepth 100000 in
set_option maxHeartbeats 1000000 in
theorem l_tally2 {n m home turned : Nat} {toward : Int32} {ch : FN} (hm : xMo m) (hn8 : n ≤ 8) (hho : home < 256) (htu : turned < 256) (σ0 : Sg) (h0n : σ0 59 2 = nI n) (hch : ∀ i, i < n → σ0 60 i = ch i) : ∀ (j k : Nat) (V : FN) (V6 V7 : Value), k + j = n → (∀ i, i < n → V i = voF n ch (tr n (σ0 (m + 2))) (σ0 m 2) home turned toward k i) →
    Ex (YX0_tallyAll, 0, xB0, none) 29 [.ref 59, .ref m, .int (nI home), .int (nI turned), .int toward, .int (nI k), V6, V7] [] (xMs (sw σ0 61 V)) (xQ (fun v σ' => v = none ∧ ∃ V', (∀ i, i < n → V' i = voF n ch (tr n (σ0 (m + 2))) (σ0 m 2) home turned toward n i) ∧ σ' = sw σ0 61 V')) := by
  obtain ⟨q1, q2, q3⟩ := xMo_far (c := 61) hm (by decide)
  intro j
  induction j with
  | zero =>
    intro k V V6 V7 hk hV
    have hk : k = n := by omega
    subst hk
    have hn : sw σ0 61 V 59 2 = nI k := by rw [sw_n _ _ (by decide)]; exact h0n
    refine x_iload dX0_tallyAll_29 rfl ?_
    refine x_aload_n dX0_tallyAll_31 rfl ?_
    refine s_geti (ci := 0) (k := 2) (N := 3) (C := RX0) (T := TX0) dX0_tallyAll_32 lfX0_18 inX0 rfl (by decide) (rfl) rfl ?_
    refine x_icmp_ge (tgt := 128) dX0_tallyAll_35 (by decide) (fun c_35 => ?_) (fun c_35 => (absurd (by rw [hn]; exact Int32.le_refl _) c_35))
    exact s_ret dX0_tallyAll_128 rfl (⟨rfl, V, hV, rfl⟩)
  | succ j ih =>
    intro k V V6 V7 hk hV
    have hkn : k < n := by omega
    have hn : sw σ0 61 V 59 2 = nI n := by rw [sw_n _ _ (by decide)]; exact h0n
    have ech : sw σ0 61 V 60 k = ch k := by rw [sw_n _ _ (by decide)]; exact hch k hkn
    have era : sw σ0 61 V m 2 = σ0 m 2 := by rw [sw_n _ _ q1.symm]
    have evo : sw σ0 61 V (m + 2) k = tr n (σ0 (m + 2)) k := by rw [sw_n _ _ q3.symm, tr_i hkn]
    -- a street's votes are not counted
    have skip : ∀ (V6 V7 : Value), ¬ (home.testBit k = false ∧ ¬ toF ch turned toward k = σ0 m 2 ∧ inb n (toF ch turned toward k) = true) → Ex (YX0_tallyAll, 0, xB0, none) 29 [.ref 59, .ref m, .int (nI home), .int (nI turned), .int toward, .int (nI (k + 1)), V6, V7] [] (xMs (sw σ0 61 V)) (xQ (fun v σ' => v = none ∧ ∃ V', (∀ i, i < n → V' i = voF n ch (tr n (σ0 (m + 2))) (σ0 m 2) home turned toward n i) ∧ σ' = sw σ0 61 V')) := fun V6 V7 h => ih (k + 1) V V6 V7 (by omega) (fun i hi => by rw [voF_n h]; exact hV i hi)
    have take : ∀ (V6 V7 : Value) (a : Nat), home.testBit k = false → ¬ toF ch turned toward k = σ0 m 2 → a < n → toF ch turned toward k = nI a → Ex (YX0_tallyAll, 0, xB0, none) 29 [.ref 59, .ref m, .int (nI home), .int (nI turned), .int toward, .int (nI (k + 1)), V6, V7] [] (xMs (sw σ0 61 (upd V a (V a + tr n (σ0 (m + 2)) k)))) (xQ (fun v σ' => v = none ∧ ∃ V', (∀ i, i < n → V' i = voF n ch (tr n (σ0 (m + 2))) (σ0 m 2) home turned toward n i) ∧ σ' = sw σ0 61 V')) := fun V6 V7 a h1 h2 h3 h4 => ih (k + 1) _ V6 V7 (by omega) (fun i hi => by
      rw [voF_s h1 h2 h3 (by omega) h4]
      unfold upd
      by_cases e : i = a
      · rw [if_pos e, if_pos e, hV a h3]
      · rw [if_neg e, if_neg e, hV i hi])
    have bt := bz_bit (a := turned) (k := k) (by omega) (by omega)
    have bh := bz_bit (a := home) (k := k) (by omega) (by omega)
    have key : ∀ t : Int32, t = toF ch turned toward k → Ex (YX0_tallyAll, 0, xB0, none) 59 [.ref 59, .ref m, .int (nI home), .int (nI turned), .int toward, .int (nI k), V6, V7] [.int t] (xMs (sw σ0 61 V)) (xQ (fun v σ' => v = none ∧ ∃ V', (∀ i, i < n → V' i = voF n ch (tr n (σ0 (m + 2))) (σ0 m 2) home turned toward n i) ∧ σ' = sw σ0 61 V')) := by
      intro t ht
      refine x_istore dX0_tallyAll_59 (by decide) rfl ?_
      refine x_iload_n dX0_tallyAll_61 rfl ?_
      refine x_iload dX0_tallyAll_62 rfl ?_
      refine x_ishr dX0_tallyAll_64 ?_
      refine x_iconst (v := 1) dX0_tallyAll_65 (by decide) ?_
      refine x_iand dX0_tallyAll_66 ?_
      rw [bh]
      refine x_if_ne (tgt := 83) dX0_tallyAll_67 (by decide) (fun c_67 => ?_) (fun c_67 => ?_)
      · refine x_iconst (v := 0) dX0_tallyAll_83 (by decide) ?_
        refine x_istore dX0_tallyAll_84 (by decide) rfl ?_
        refine x_iload dX0_tallyAll_86 rfl ?_
        refine x_if_eq (tgt := 122) dX0_tallyAll_88 (by decide) (fun c_88 => ?_) (fun c_88 => (by first | exact absurd c_88 (by decide) | exact absurd (by decide) c_88))
        skip
        refine s_iinc dX0_tallyAll_122 rfl (by decide) rfl ?_
        refine x_goto (tgt := 29) dX0_tallyAll_125 (by decide) ?_
        first
          | exact skip _ _ (fun h => by rw [bI_0] at c_67; exact absurd h.1 c_67)
          | exact skip _ _ (fun h => h.2.1 (ht.symm.trans c_76))
          | exact skip _ _ (fun h => by rw [← ht, inb_lt c_93] at h; exact Bool.noConfusion h.2.2)
          | exact skip _ _ (fun h => by rw [← ht, inb_ge c_102] at h; exact Bool.noConfusion h.2.2)
          | (rw [sg_def _ 61, sw_sw]; exact take _ _ a (bI_0.mp c_67) (fun h => c_76 (ht.trans h)) ha ht.symm)
      · refine x_iload dX0_tallyAll_70 rfl ?_
        refine x_aload_n dX0_tallyAll_72 rfl ?_
        refine s_getiN (ci := 1) (k := 2) (N := 4) (C := RX1) (T := TX1) dX0_tallyAll_73 lfX0_50 inX1 rfl (by decide) (hm.1) rfl ?_
        rw [era]
        refine x_icmp_eq (tgt := 83) dX0_tallyAll_76 (by decide) (fun c_76 => ?_) (fun c_76 => ?_)
        · refine x_iconst (v := 0) dX0_tallyAll_83 (by decide) ?_
          refine x_istore dX0_tallyAll_84 (by decide) rfl ?_
          refine x_iload dX0_tallyAll_86 rfl ?_
          refine x_if_eq (tgt := 122) dX0_tallyAll_88 (by decide) (fun c_88 => ?_) (fun c_88 => (by first | exact absurd c_88 (by decide) | exact absurd (by decide) c_88))
          skip
          refine s_iinc dX0_tallyAll_122 rfl (by decide) rfl ?_
          refine x_goto (tgt := 29) dX0_tallyAll_125 (by decide) ?_
          first
            | exact skip _ _ (fun h => by rw [bI_0] at c_67; exact absurd h.1 c_67)
            | exact skip _ _ (fun h => h.2.1 (ht.symm.trans c_76))
            | exact skip _ _ (fun h => by rw [← ht, inb_lt c_93] at h; exact Bool.noConfusion h.2.2)
            | exact skip _ _ (fun h => by rw [← ht, inb_ge c_102] at h; exact Bool.noConfusion h.2.2)
            | (rw [sg_def _ 61, sw_sw]; exact take _ _ a (bI_0.mp c_67) (fun h => c_76 (ht.trans h)) ha ht.symm)
        · refine x_iconst (v := 1) dX0_tallyAll_79 (by decide) ?_
          refine x_goto (tgt := 84) dX0_tallyAll_80 (by decide) ?_
          refine x_istore dX0_tallyAll_84 (by decide) rfl ?_
          refine x_iload dX0_tallyAll_86 rfl ?_
          refine x_if_eq (tgt := 122) dX0_tallyAll_88 (by decide) (fun c_88 => (by first | exact absurd c_88 (by decide) | exact absurd (by decide) c_88)) (fun c_88 => ?_)
          refine x_iload dX0_tallyAll_91 rfl ?_
          refine x_if_lt (tgt := 122) dX0_tallyAll_93 (by decide) (fun c_93 => ?_) (fun c_93 => ?_)
          · skip
            refine s_iinc dX0_tallyAll_122 rfl (by decide) rfl ?_
            refine x_goto (tgt := 29) dX0_tallyAll_125 (by decide) ?_
            first
              | exact skip _ _ (fun h => by rw [bI_0] at c_67; exact absurd h.1 c_67)
              | exact skip _ _ (fun h => h.2.1 (ht.symm.trans c_76))
              | exact skip _ _ (fun h => by rw [← ht, inb_lt c_93] at h; exact Bool.noConfusion h.2.2)
              | exact skip _ _ (fun h => by rw [← ht, inb_ge c_102] at h; exact Bool.noConfusion h.2.2)
              | (rw [sg_def _ 61, sw_sw]; exact take _ _ a (bI_0.mp c_67) (fun h => c_76 (ht.trans h)) ha ht.symm)
          · refine x_iload dX0_tallyAll_96 rfl ?_
            refine x_aload_n dX0_tallyAll_98 rfl ?_
            refine s_geti (ci := 0) (k := 2) (N := 3) (C := RX0) (T := TX0) dX0_tallyAll_99 lfX0_18 inX0 rfl (by decide) (rfl) rfl ?_
            rw [hn]
            refine x_icmp_ge (tgt := 122) dX0_tallyAll_102 (by decide) (fun c_102 => ?_) (fun c_102 => ?_)
            · skip
              refine s_iinc dX0_tallyAll_122 rfl (by decide) rfl ?_
              refine x_goto (tgt := 29) dX0_tallyAll_125 (by decide) ?_
              first
                | exact skip _ _ (fun h => by rw [bI_0] at c_67; exact absurd h.1 c_67)
                | exact skip _ _ (fun h => h.2.1 (ht.symm.trans c_76))
                | exact skip _ _ (fun h => by rw [← ht, inb_lt c_93] at h; exact Bool.noConfusion h.2.2)
                | exact skip _ _ (fun h => by rw [← ht, inb_ge c_102] at h; exact Bool.noConfusion h.2.2)
                | (rw [sg_def _ 61, sw_sw]; exact take _ _ a (bI_0.mp c_67) (fun h => c_76 (ht.trans h)) ha ht.symm)
            · obtain ⟨a, ha, rfl⟩ : ∃ a, a < n ∧ t = nI a := inb_t (by omega) (inb_ok c_93 c_102)
              refine x_aload_n dX0_tallyAll_105 rfl ?_
              refine s_getr (ci := 0) (k := 1) (N := 3) (C := RX0) (T := TX0) dX0_tallyAll_106 lfX0_15 inX0 rfl (by decide) (rfl) rfl ?_
              refine x_iload dX0_tallyAll_109 rfl ?_
              refine x_dup2 dX0_tallyAll_111 rfl rfl ?_
              refine s_iald dX0_tallyAll_112 (rfl) (hi := rfl) (hj := by omega) (hn := by decide) ?_
              refine x_aload_n dX0_tallyAll_113 rfl ?_
              refine s_getrN (ci := 1) (k := 1) (N := 4) (C := RX1) (T := TX1) dX0_tallyAll_114 lfX0_53 inX1 rfl (by decide) (hm.1) rfl ?_
              refine x_iload dX0_tallyAll_117 rfl ?_
              refine s_iald dX0_tallyAll_119 (hm.2.2.1) (hi := rfl) (hj := by omega) (hn := by decide) ?_
              rw [evo, sw_s]
              refine x_iadd dX0_tallyAll_120 ?_
              refine s_iast dX0_tallyAll_121 (rfl) (hi := rfl) (hj := by omega) (hn := by decide) ?_
              skip
              refine s_iinc dX0_tallyAll_122 rfl (by decide) rfl ?_
              refine x_goto (tgt := 29) dX0_tallyAll_125 (by decide) ?_
              first
                | exact skip _ _ (fun h => by rw [bI_0] at c_67; exact absurd h.1 c_67)
                | exact skip _ _ (fun h => h.2.1 (ht.symm.trans c_76))
                | exact skip _ _ (fun h => by rw [← ht, inb_lt c_93] at h; exact Bool.noConfusion h.2.2)
                | exact skip _ _ (fun h => by rw [← ht, inb_ge c_102] at h; exact Bool.noConfusion h.2.2)
                | (rw [sg_def _ 61, sw_sw]; exact take _ _ a (bI_0.mp c_67) (fun h => c_76 (ht.trans h)) ha ht.symm)
    refine x_iload dX0_tallyAll_29 rfl ?_
    refine x_aload_n dX0_tallyAll_31 rfl ?_
    refine s_geti (ci := 0) (k := 2) (N := 3) (C := RX0) (T := TX0) dX0_tallyAll_32 lfX0_18 inX0 rfl (by decide) (rfl) rfl ?_
    refine x_icmp_ge (tgt := 128) dX0_tallyAll_35 (by decide) (fun c_35 => (absurd c_35 (by rw [hn]; exact nI_ge hkn (by omega)))) (fun c_35 => ?_)
    refine x_iload_n dX0_tallyAll_38 rfl ?_
    refine x_iload dX0_tallyAll_39 rfl ?_
    refine x_ishr dX0_tallyAll_41 ?_
    refine x_iconst (v := 1) dX0_tallyAll_42 (by decide) ?_
    refine x_iand dX0_tallyAll_43 ?_
    rw [bt]
    refine x_if_eq (tgt := 52) dX0_tallyAll_44 (by decide) (fun c_44 => ?_) (fun c_44 => ?_)
    · refine x_aload_n dX0_tallyAll_52 rfl ?_
      refine s_getr (ci := 0) (k := 0) (N := 3) (C := RX0) (T := TX0) dX0_tallyAll_53 lfX0_9 inX0 rfl (by decide) (rfl) rfl ?_
      refine x_iload dX0_tallyAll_56 rfl ?_
      refine s_iald dX0_tallyAll_58 (rfl) (hi := rfl) (hj := by omega) (hn := by decide) ?_
      first
        | exact key _ (by unfold toF; rw [if_neg (fun h => by rw [bI_0, h] at c_44; exact Bool.noConfusion c_44)]; exact ech)
        | exact key _ (by unfold toF; rw [if_pos (bI_n c_44)])
    · refine x_iload dX0_tallyAll_47 rfl ?_
      refine x_goto (tgt := 59) dX0_tallyAll_49 (by decide) ?_
      first
        | exact key _ (by unfold toF; rw [if_neg (fun h => by rw [bI_0, h] at c_44; exact Bool.noConfusion c_44)]; exact ech)
        | exact key _ (by unfold toF; rw [if_pos (bI_n c_44)])
set_option maxRecDepth 100000 in
theorem k_tallyAll (σ : Sg) {n m home turned : Nat} {toward : Int32} {ch : FN} (hm : xMo m) (hn : σ 59 2 = nI n) (hn8 : n ≤ 8) (hho : home < 256) (htu : turned < 256) (hch : ∀ i, i < n → σ 60 i = ch i) : Cm 0 YX0_tallyAll [.ref 59, .ref m, .int (nI home), .int (nI turned), .int toward] σ (fun v σ' => v = none ∧ ∃ V', (∀ i, i < n → V' i = voF n ch (tr n (σ (m + 2))) (σ m 2) home turned toward n i) ∧ σ' = sw σ 61 V') := by
  refine Cm_of (by decide +kernel) (Nat.le_of_ble_eq_true rfl) ?_
  refine x_iconst (v := 0) dX0_tallyAll_0 (by decide) ?_
  refine x_istore dX0_tallyAll_1 (by decide) rfl ?_
  have h := l_tally1 (V6 := .null) (V7 := .null) (m := m) (home := nI home) (turned := nI turned) (toward := toward) hn8 σ hn _ (fun V hV => l_tally2 (toward := toward) (home := home) (turned := turned) hm hn8 hho htu σ hn hch n 0 V _ _ (by omega) (fun i hi => hV i hi)) n 0 (σ 61) (by omega) (fun i hi => by omega)
  rw [sw_id] at h
  exact h
set_option maxRecDepth 100000 in
theorem k_tally (σ : Sg) {n m home : Nat} {ch : FN} (hm : xMo m) (hn : σ 59 2 = nI n) (hn8 : n ≤ 8) (hho : home < 256) (hch : ∀ i, i < n → σ 60 i = ch i) : Cm 1 YX0_tally [.ref 59, .ref m, .int (nI home)] σ (fun v σ' => v = none ∧ ∃ V', (∀ i, i < n → V' i = voF n ch (tr n (σ (m + 2))) (σ m 2) home 0 (-1) n i) ∧ σ' = sw σ 61 V') := by
  refine Cm_of (by decide +kernel) (Nat.le_of_ble_eq_true rfl) ?_
  refine x_aload_n dX0_tally_0 rfl ?_
  refine x_aload_n dX0_tally_1 rfl ?_
  refine x_iload_n dX0_tally_2 rfl ?_
  refine x_iconst (v := 0) dX0_tally_3 (by decide) ?_
  refine x_iconst (v := -1) dX0_tally_4 (by decide) ?_
  refine s_callV dX0_tally_5 (k_tallyAll (turned := 0) (toward := -1) σ hm hn hn8 hho (by decide) hch) rfl w_X0_tallyAll lmX0_46 im_X0_tallyAll se_X0_tallyAll rfl (rfl) rfl (Nat.le_of_ble_eq_true rfl) rfl (by decide) (fun v_5 σ_5 h_5 => ?_)
  obtain ⟨rfl, V, hV, rfl⟩ := h_5
  exact s_ret dX0_tally_8 rfl (⟨rfl, V, hV, rfl⟩)
set_option maxRecDepth 100000 in
theorem k_tallyTurned (σ : Sg) {n m turned : Nat} {toward : Int32} {ch : FN} (hm : xMo m) (hn : σ 59 2 = nI n) (hn8 : n ≤ 8) (htu : turned < 256) (hch : ∀ i, i < n → σ 60 i = ch i) : Cm 1 YX0_tallyTurned [.ref 59, .ref m, .int (nI turned), .int toward] σ (fun v σ' => v = none ∧ ∃ V', (∀ i, i < n → V' i = voF n ch (tr n (σ (m + 2))) (σ m 2) 0 turned toward n i) ∧ σ' = sw σ 61 V') := by
  refine Cm_of (by decide +kernel) (Nat.le_of_ble_eq_true rfl) ?_
  refine x_aload_n dX0_tallyTurned_0 rfl ?_
  refine x_aload_n dX0_tallyTurned_1 rfl ?_
  refine x_iconst (v := 0) dX0_tallyTurned_2 (by decide) ?_
  refine x_iload_n dX0_tallyTurned_3 rfl ?_
  refine x_iload_n dX0_tallyTurned_4 rfl ?_
  refine s_callV dX0_tallyTurned_5 (k_tallyAll (home := 0) σ hm hn hn8 (by decide) htu hch) rfl w_X0_tallyAll lmX0_46 im_X0_tallyAll se_X0_tallyAll rfl (rfl) rfl (Nat.le_of_ble_eq_true rfl) rfl (by decide) (fun v_5 σ_5 h_5 => ?_)
  obtain ⟨rfl, V, hV, rfl⟩ := h_5
  exact s_ret dX0_tallyTurned_8 rfl (⟨rfl, V, hV, rfl⟩)
/-- by whom it is carried -/
def caF (p : PL) (o : MO) (home turned : Nat) (toward : Int32) : Int32 := (wnF (voF p.1 (chF p o.1) o.2.1 o.2.2.1 home turned toward p.1) p.1).1
theorem caF_in (p : PL) (o : MO) (home turned : Nat) (toward : Int32) : caF p o home turned toward = -1 ∨ ∃ j, j < p.1 ∧ caF p o home turned toward = nI j := wnF_in _ _
/-- the next day -/
def daF (p : PL) (o : MO) : MO := psF p o (caF p o 0 0 (-1))
set_option maxRecDepth 100000 in
theorem k_passDay (σ : Sg) {n m : Nat} (hm : xMo m) (hn : σ 3 5 = nI n) (hn8 : n ≤ 8) : Cm 4 YX8_passDay [.ref 0, .ref m] σ (fun v σ' => v = some (.int (caF (plC n σ) (moC n σ m) 0 0 (-1))) ∧ moC n σ' m = daF (plC n σ) (moC n σ m) ∧ ∀ c, c ≠ m → c ≠ m + 1 → c ≠ m + 2 → c ≠ 59 → c ≠ 60 → c ≠ 61 → σ' c = σ c) := by
  refine Cm_of (by decide +kernel) (Nat.le_of_ble_eq_true rfl) ?_
  obtain ⟨q1, q2, q3⟩ := xMo_far (c := 59) hm (by decide)
  obtain ⟨r1, r2, r3⟩ := xMo_far (c := 60) hm (by decide)
  obtain ⟨s1, s2, s3⟩ := xMo_far (c := 61) hm (by decide)
  refine x_aload_n dX8_passDay_0 rfl ?_
  refine s_getr (ci := 8) (k := 8) (N := 10) (C := RX8) (T := TX8) dX8_passDay_1 lfX8_60 inX8 rfl (by decide) (rfl) rfl ?_
  refine x_aload_n dX8_passDay_4 rfl ?_
  refine s_getr (ci := 8) (k := 1) (N := 10) (C := RX8) (T := TX8) dX8_passDay_5 lfX8_19 inX8 rfl (by decide) (rfl) rfl ?_
  refine x_aload_n dX8_passDay_8 rfl ?_
  refine s_callV dX8_passDay_9 (k_choose σ hm hn hn8) rfl w_X0_choose lmX8_124 im_X0_choose se_X0_choose rfl (rfl) rfl (Nat.le_of_ble_eq_true rfl) rfl (by decide) (fun v_9 σ_9 h_9 => ?_)
  obtain ⟨rfl, C, hC, rfl⟩ := h_9
  refine x_aload_n dX8_passDay_12 rfl ?_
  refine s_getr (ci := 8) (k := 8) (N := 10) (C := RX8) (T := TX8) dX8_passDay_13 lfX8_60 inX8 rfl (by decide) (rfl) rfl ?_
  refine x_aload_n dX8_passDay_16 rfl ?_
  refine x_iconst (v := 0) dX8_passDay_17 (by decide) ?_
  refine s_callV dX8_passDay_18 (k_tally (home := 0) (ch := chF (plC n σ) (tr n (σ (m + 1)))) _ hm (n := n) (by rw [sw_n _ _ (by decide), sg_s]) hn8 (by decide) (fun i hi => by rw [sw_s]; exact hC i hi)) rfl w_X0_tally lmX8_128 im_X0_tally se_X0_tally rfl (rfl) rfl (Nat.le_of_ble_eq_true rfl) rfl (by decide) (fun v_18 σ_18 h_18 => ?_)
  obtain ⟨rfl, V, hV, rfl⟩ := h_18
  refine x_aload_n dX8_passDay_21 rfl ?_
  refine s_getr (ci := 8) (k := 8) (N := 10) (C := RX8) (T := TX8) dX8_passDay_22 lfX8_60 inX8 rfl (by decide) (rfl) rfl ?_
  refine s_callV dX8_passDay_25 (k_winner _ (n := n) (by rw [sw_n _ _ (by decide), sw_n _ _ (by decide), sg_s]) hn8) rfl w_X0_winner lmX8_244 im_X0_winner se_X0_winner rfl (rfl) rfl (Nat.le_of_ble_eq_true rfl) rfl (by decide) (fun v_25 σ_25 h_25 => ?_)
  obtain ⟨rfl, z⟩ := h_25
  have z := z.symm
  subst z
  have ew : (wnF (sw (sw (sg σ 59 2 (nI n)) 60 C) 61 V 61) n).1 = caF (plC n σ) (moC n σ m) 0 0 (-1) := by
    rw [sw_s]
    unfold caF
    rw [wnF_congr n hV]
    rw [sw_n _ _ r3.symm, sg_n _ _ _ q3.symm, sw_n _ _ r1.symm, sg_n _ _ _ q1.symm]
    rfl
  rw [ew]
  refine x_istore_n dX8_passDay_28 (by decide) rfl ?_
  refine x_aload_n dX8_passDay_29 rfl ?_
  refine x_aload_n dX8_passDay_30 rfl ?_
  refine s_getr (ci := 8) (k := 1) (N := 10) (C := RX8) (T := TX8) dX8_passDay_31 lfX8_19 inX8 rfl (by decide) (rfl) rfl ?_
  refine x_iload_n dX8_passDay_34 rfl ?_
  refine s_callV dX8_passDay_35 (k_pass _ hm (n := n) (by exact hn) hn8 _) rfl w_X1_pass lmX8_247 im_X1_pass se_X1_pass rfl (hm.1) rfl (Nat.le_of_ble_eq_true rfl) rfl (by decide) (fun v_35 σ_35 h_35 => ?_)
  obtain ⟨rfl, hmo, hfr⟩ := h_35
  refine x_iload_n dX8_passDay_38 rfl ?_
  refine s_iret dX8_passDay_39 rfl ?_
  refine ⟨rfl, ?_, fun c h0 h1 h2 h3 h4 h5 => by rw [hfr c h0 h1 h2, sw_n _ _ h5, sw_n _ _ h4, sg_n _ _ _ h3]⟩
  rw [hmo]
  have e1 : moC n (sw (sw (sg σ 59 2 (nI n)) 60 C) 61 V) m = moC n σ m := by
    unfold moC
    rw [sw_n _ _ s3.symm, sw_n _ _ s2.symm, sw_n _ _ s1.symm, sw_n _ _ r3.symm, sw_n _ _ r2.symm, sw_n _ _ r1.symm, sg_n _ _ _ q3.symm, sg_n _ _ _ q2.symm, sg_n _ _ _ q1.symm]
  rw [e1]
  rfl
