/-! ===== RainBallotModel's calls, 7: polls ===== -/

/-- what was noted, as place and time -/
def NT (q : Nat) (no pl ti : FN) : Prop := ∀ k, k < q → ∃ t st, t ≤ 20 ∧ st ≤ 9 ∧ no k = nI (10 * t + st) ∧ ti k = nI t ∧ pl k = nI st - 1
theorem alF_s (pl ti : FN) (s n : Int32) (k : Nat) : alF pl ti s n (k + 1) = (alF pl ti s n k && !(decide (ti k = n) && !decide (pl k = s))) := rfl
set_option maxRecDepth 100000 in
set_option maxHeartbeats 1000000 in
theorem k_isSo (σ : Sg) {n q : Nat} {pl ti : FN} (hn : σ 83 0 = nI n) (hp : Wp (plM n σ 83)) (ho : Wm n (moS n σ)) (hb : NB σ) (hq : σ 81 10 = nI q) (hq6 : q ≤ 6) (hN : NT q (σ 89) pl ti) : Cm 5 YX9_isSo [.ref 81] σ (fun v σ' => v = some (.int (bI (asF (plM n σ 83) (moS n σ) pl ti q 20))) ∧ (∀ i, i < 18 → σ' 85 i = σ 91 i) ∧ ∀ c, c ≠ 85 → c ≠ 90 → σ' c = σ c) := by
  refine Cm_of (by decide +kernel) (Nat.le_of_ble_eq_true rfl) ?_
  have hn8 : n ≤ 8 := hp.1
  have loop : ∀ (j d : Nat) (τ : Sg) (V3 : Value), d + j = 20 → moS n τ = itF (plM n σ 83) (moS n σ) d → (∀ c, c ≠ 85 → c ≠ 90 → τ c = σ c) → Ex (YX9_isSo, 5, xB0, none) 4 [.ref 81, .int (bI (asF (plM n σ 83) (moS n σ) pl ti q d)), .int (nI (d + 1)), V3] [] (xMs τ) (xQ (fun v σ' => v = some (.int (bI (asF (plM n σ 83) (moS n σ) pl ti q 20))) ∧ (∀ i, i < 18 → σ' 85 i = σ 91 i) ∧ ∀ c, c ≠ 85 → c ≠ 90 → σ' c = σ c)) := by
    intro j
    induction j with
    | zero =>
      intro d τ V3 hd hm hf
      obtain rfl : d = 20 := by omega
      refine x_iload_n dX9_isSo_4 rfl ?_
      refine x_bipush (v := 20) dX9_isSo_5 (by decide) ?_
      refine x_icmp_gt (tgt := 81) dX9_isSo_7 (by decide) (fun c_7 => ?_) (fun c_7 => (absurd (by decide) c_7))
      refine x_aload_n dX9_isSo_81 rfl ?_
      refine s_callV dX9_isSo_82 (k_lets τ) rfl w_X9_lets lmX9_151 im_X9_lets se_X9_lets rfl (rfl) rfl (Nat.le_of_ble_eq_true rfl) rfl (by decide) (fun v_82 σ_82 h_82 => ?_)
      obtain ⟨rfl, W2, hW2, rfl⟩ := h_82
      refine x_iload_n dX9_isSo_85 rfl ?_
      exact s_zret dX9_isSo_86 rfl (by first | exact Or.inl rfl | exact Or.inr rfl | assumption | exact bI_01 _) (⟨rfl, fun i hi => by rw [sw_s, hW2 i hi, hf 91 (by decide) (by decide)], fun c a b => by rw [sw_n _ _ a]; exact hf c a b⟩)
    | succ j ih =>
      intro d τ V3 hd hm hf
      have hn' : τ 83 0 = nI n := by rw [hf 83 (by decide) (by decide)]; exact hn
      have ep : plM n τ 83 = plM n σ 83 := plM_fr (hf 83 (by decide) (by decide))
      have hw := it_wk hp (o := moS n σ) ho d
      have inner : ∀ (i k : Nat) (τ2 : Sg), k + i = q → moS n τ2 = itF (plM n σ 83) (moS n σ) (d + 1) → (∀ c, c ≠ 85 → c ≠ 90 → τ2 c = σ c) → Ex (YX9_isSo, 5, xB0, none) 17 [.ref 81, .int (bI (asF (plM n σ 83) (moS n σ) pl ti q d && alF pl ti (caF (plM n σ 83) (itF (plM n σ 83) (moS n σ) d) 0 0 (-1)) (nI (d + 1)) k)), .int (nI (d + 1)), .int (nI k)] [] (xMs τ2) (xQ (fun v σ' => v = some (.int (bI (asF (plM n σ 83) (moS n σ) pl ti q 20))) ∧ (∀ i, i < 18 → σ' 85 i = σ 91 i) ∧ ∀ c, c ≠ 85 → c ≠ 90 → σ' c = σ c)) := by
        intro i
        induction i with
        | zero =>
          intro k τ2 hk hm2 hf2
          obtain rfl : k = q := by omega
          have hq' : τ2 81 10 = nI k := by rw [hf2 81 (by decide) (by decide)]; exact hq
          refine x_iload_n dX9_isSo_17 rfl ?_
          refine x_aload_n dX9_isSo_18 rfl ?_
          refine s_geti (ci := 9) (k := 10) (N := 20) (C := RX9) (T := TX9) dX9_isSo_19 lfX9_104 inX9 rfl (by decide) (rfl) rfl ?_
          refine x_icmp_ge (tgt := 75) dX9_isSo_22 (by decide) (fun c_22 => ?_) (fun c_22 => (absurd (by rw [hq']; exact Int32.le_refl _) c_22))
          refine s_iinc dX9_isSo_75 rfl (Nat.le_of_ble_eq_true rfl) rfl ?_
          refine x_goto (tgt := 4) dX9_isSo_78 (by decide) ?_
          exact ih (d + 1) τ2 _ (by omega) hm2 hf2
        | succ i ihi =>
          intro k τ2 hk hm2 hf2
          have hkq : k < q := by omega
          have hq' : τ2 81 10 = nI q := by rw [hf2 81 (by decide) (by decide)]; exact hq
          obtain ⟨t, st, ht, hst, e1, e2, e3⟩ := hN k hkq
          have e89 : τ2 89 k = nI (10 * t + st) := by rw [hf2 89 (by decide) (by decide)]; exact e1
          have er : τ2 85 17 = caF (plM n σ 83) (itF (plM n σ 83) (moS n σ) d) 0 0 (-1) := congrArg (fun z : MO => z.2.2.1) hm2
          have d1 : nI (10 * t + st) / 10 = nI t := by
            rw [show (10 : Int32) = nI 10 from rfl, nI_div (by omega) (by decide)]
            congr 1
            omega
          have d2 : nI (10 * t + st) - nI (10 * t + st) / 10 * 10 = nI st := by
            rw [show (10 : Int32) = nI 10 from rfl, nI_rem (by omega) (by decide)]
            congr 1
            omega
          generalize caF (plM n σ 83) (itF (plM n σ 83) (moS n σ) d) 0 0 (-1) = r at er ihi ⊢
          generalize asF (plM n σ 83) (moS n σ) pl ti q d = b at ihi ⊢
          have step : ∀ x : Int32, x = bI (b && alF pl ti r (nI (d + 1)) (k + 1)) → Ex (YX9_isSo, 5, xB0, none) 17 [.ref 81, .int x, .int (nI (d + 1)), .int (nI (k + 1))] [] (xMs τ2) (xQ (fun v σ' => v = some (.int (bI (asF (plM n σ 83) (moS n σ) pl ti q 20))) ∧ (∀ i, i < 18 → σ' 85 i = σ 91 i) ∧ ∀ c, c ≠ 85 → c ≠ 90 → σ' c = σ c)) := fun x hx => by
            subst hx
            exact ihi (k + 1) τ2 (by omega) hm2 hf2
          have s0 : bI (b && alF pl ti r (nI (d + 1)) k) = 0 → (0 : Int32) = bI (b && alF pl ti r (nI (d + 1)) (k + 1)) := fun h => by
            rw [alF_s, ← Bool.and_assoc, bI_0.mp h]; rfl
          have s1 : ¬ bI (b && alF pl ti r (nI (d + 1)) k) = 0 → ¬ nI t = nI (d + 1) → (1 : Int32) = bI (b && alF pl ti r (nI (d + 1)) (k + 1)) := fun h h2 => by
            rw [alF_s, ← Bool.and_assoc, bI_n h, e2, decide_eq_false h2]; rfl
          have s2 : ¬ bI (b && alF pl ti r (nI (d + 1)) k) = 0 → nI t = nI (d + 1) → ¬ nI st - 1 = r → (0 : Int32) = bI (b && alF pl ti r (nI (d + 1)) (k + 1)) := fun h h2 h3 => by
            rw [alF_s, ← Bool.and_assoc, bI_n h, e2, e3, decide_eq_true h2, decide_eq_false h3]; rfl
          have s3 : ¬ bI (b && alF pl ti r (nI (d + 1)) k) = 0 → nI st - 1 = r → (1 : Int32) = bI (b && alF pl ti r (nI (d + 1)) (k + 1)) := fun h h3 => by
            rw [alF_s, ← Bool.and_assoc, bI_n h, e3, decide_eq_true h3, Bool.not_true, Bool.and_false]; rfl
          refine x_iload_n dX9_isSo_17 rfl ?_
          refine x_aload_n dX9_isSo_18 rfl ?_
          refine s_geti (ci := 9) (k := 10) (N := 20) (C := RX9) (T := TX9) dX9_isSo_19 lfX9_104 inX9 rfl (by decide) (rfl) rfl ?_
          refine x_icmp_ge (tgt := 75) dX9_isSo_22 (by decide) (fun c_22 => (absurd c_22 (by rw [hq']; exact nI_ge hkq (by omega)))) (fun c_22 => ?_)
          refine x_iload_n dX9_isSo_25 rfl ?_
          refine x_if_eq (tgt := 67) dX9_isSo_26 (by decide) (fun c_26 => ?_) (fun c_26 => ?_)
          · refine x_iconst (v := 0) dX9_isSo_67 (by decide) ?_
            refine x_istore_n dX9_isSo_68 (Nat.le_of_ble_eq_true rfl) rfl ?_
            refine s_iinc dX9_isSo_69 rfl (Nat.le_of_ble_eq_true rfl) rfl ?_
            refine x_goto (tgt := 17) dX9_isSo_72 (by decide) ?_
            first
              | exact step _ (s0 c_26)
              | exact step _ (s1 c_26 c_39)
              | exact step _ (s2 c_26 c_39 c_60)
              | exact step _ (s3 c_26 c_60)
          · refine x_aload_n dX9_isSo_29 rfl ?_
            refine s_getr (ci := 9) (k := 9) (N := 20) (C := RX9) (T := TX9) dX9_isSo_30 lfX9_32 inX9 rfl (by decide) (rfl) rfl ?_
            refine x_iload_n dX9_isSo_33 rfl ?_
            refine s_iald dX9_isSo_34 (rfl) (hi := rfl) (hj := by omega) (hn := by decide) ?_
            refine x_bipush (v := 10) dX9_isSo_35 (by decide) ?_
            refine x_idiv dX9_isSo_37 ((by decide)) ?_
            rw [e89, d1]
            refine x_iload_n dX9_isSo_38 rfl ?_
            refine x_icmp_ne (tgt := 63) dX9_isSo_39 (by decide) (fun c_39 => ?_) (fun c_39 => ?_)
            · refine x_iconst (v := 1) dX9_isSo_63 (by decide) ?_
              refine x_goto (tgt := 68) dX9_isSo_64 (by decide) ?_
              refine x_istore_n dX9_isSo_68 (Nat.le_of_ble_eq_true rfl) rfl ?_
              refine s_iinc dX9_isSo_69 rfl (Nat.le_of_ble_eq_true rfl) rfl ?_
              refine x_goto (tgt := 17) dX9_isSo_72 (by decide) ?_
              first
                | exact step _ (s0 c_26)
                | exact step _ (s1 c_26 c_39)
                | exact step _ (s2 c_26 c_39 c_60)
                | exact step _ (s3 c_26 c_60)
            · refine x_aload_n dX9_isSo_42 rfl ?_
              refine s_getr (ci := 9) (k := 9) (N := 20) (C := RX9) (T := TX9) dX9_isSo_43 lfX9_32 inX9 rfl (by decide) (rfl) rfl ?_
              refine x_iload_n dX9_isSo_46 rfl ?_
              refine s_iald dX9_isSo_47 (rfl) (hi := rfl) (hj := by omega) (hn := by decide) ?_
              refine x_bipush (v := 10) dX9_isSo_48 (by decide) ?_
              refine x_irem dX9_isSo_50 ((by decide)) ?_
              rw [e89, d2]
              refine x_iconst (v := 1) dX9_isSo_51 (by decide) ?_
              refine x_isub dX9_isSo_52 ?_
              refine x_aload_n dX9_isSo_53 rfl ?_
              refine s_getr (ci := 9) (k := 4) (N := 20) (C := RX9) (T := TX9) dX9_isSo_54 lfX9_19 inX9 rfl (by decide) (rfl) rfl ?_
              refine x_bipush (v := 17) dX9_isSo_57 (by decide) ?_
              refine s_iald dX9_isSo_59 (rfl) (j := 17) (hi := by decide) (hj := by omega) (hn := by decide) ?_
              rw [er]
              refine x_icmp_ne (tgt := 67) dX9_isSo_60 (by decide) (fun c_60 => ?_) (fun c_60 => ?_)
              · refine x_iconst (v := 0) dX9_isSo_67 (by decide) ?_
                refine x_istore_n dX9_isSo_68 (Nat.le_of_ble_eq_true rfl) rfl ?_
                refine s_iinc dX9_isSo_69 rfl (Nat.le_of_ble_eq_true rfl) rfl ?_
                refine x_goto (tgt := 17) dX9_isSo_72 (by decide) ?_
                first
                  | exact step _ (s0 c_26)
                  | exact step _ (s1 c_26 c_39)
                  | exact step _ (s2 c_26 c_39 c_60)
                  | exact step _ (s3 c_26 c_60)
              · refine x_iconst (v := 1) dX9_isSo_63 (by decide) ?_
                refine x_goto (tgt := 68) dX9_isSo_64 (by decide) ?_
                refine x_istore_n dX9_isSo_68 (Nat.le_of_ble_eq_true rfl) rfl ?_
                refine s_iinc dX9_isSo_69 rfl (Nat.le_of_ble_eq_true rfl) rfl ?_
                refine x_goto (tgt := 17) dX9_isSo_72 (by decide) ?_
                first
                  | exact step _ (s0 c_26)
                  | exact step _ (s1 c_26 c_39)
                  | exact step _ (s2 c_26 c_39 c_60)
                  | exact step _ (s3 c_26 c_60)
      refine x_iload_n dX9_isSo_4 rfl ?_
      refine x_bipush (v := 20) dX9_isSo_5 (by decide) ?_
      refine x_icmp_gt (tgt := 81) dX9_isSo_7 (by decide) (fun c_7 => (absurd c_7 (show ¬ nI 20 < nI (d + 1) from nI_nlt (by omega) (by decide)))) (fun c_7 => ?_)
      refine x_aload_n dX9_isSo_10 rfl ?_
      refine x_iconst (v := 1) dX9_isSo_11 (by decide) ?_
      refine s_callV dX9_isSo_12 (k_passes τ (N := 1) hn' (by rw [ep]; exact hp) (by rw [hm]; exact hw) (by unfold NB; rw [hf 81 (by decide) (by decide)]; exact hb) (by decide)) rfl w_X9_passes lmX9_148 im_X9_passes se_X9_passes rfl (rfl) rfl (Nat.le_of_ble_eq_true rfl) rfl (by decide) (fun v_12 σ_12 h_12 => ?_)
      obtain ⟨rfl, pm, pf⟩ := h_12
      rw [ep, hm] at pm
      refine x_iconst (v := 0) dX9_isSo_15 (by decide) ?_
      refine x_istore_n dX9_isSo_16 (Nat.le_of_ble_eq_true rfl) rfl ?_
      have h := inner q 0 σ_12 (by omega) pm (fun c a b => by rw [pf c a b]; exact hf c a b)
      rw [show alF pl ti (caF (plM n σ 83) (itF (plM n σ 83) (moS n σ) d) 0 0 (-1)) (nI (d + 1)) 0 = true from rfl, Bool.and_true] at h
      exact h
  refine x_iconst (v := 1) dX9_isSo_0 (by decide) ?_
  refine x_istore_n dX9_isSo_1 (Nat.le_of_ble_eq_true rfl) rfl ?_
  refine x_iconst (v := 1) dX9_isSo_2 (by decide) ?_
  refine x_istore_n dX9_isSo_3 (Nat.le_of_ble_eq_true rfl) rfl ?_
  exact loop 20 0 σ _ (by omega) rfl (fun c _ _ => rfl)
set_option maxRecDepth 100000 in
set_option maxHeartbeats 1000000 in
theorem k_mpolls (σ : Sg) {n k q : Nat} {pl ti : FN} (hn : σ 83 0 = nI n) (hp : Wp (plM n σ 83)) (ho : Wm n (moS n σ)) (hb : NB σ) (hk : k < n) (hq : σ 81 10 = nI q) (hq6 : q ≤ 6) (hN : NT q (σ 89) pl ti) : Cm 12 YX9_polls [.ref 81, .int (nI k)] σ (fun v σ' => v = some (.int (nI (stF (plV (plM n σ 83) (moS n σ) pl ti q k) 21))) ∧ fM σ σ') := by
  refine Cm_of (by decide +kernel) (Nat.le_of_ble_eq_true rfl) ?_
  have hn8 : n ≤ 8 := hp.1
  have loop : ∀ (j h : Nat) (τ : Sg), h + j = 21 → ((∀ i, i < 18 → τ 85 i = σ 85 i) ∧ (∀ i, i < 18 → τ 91 i = σ 85 i) ∧ ∀ c, c ≠ 85 → c ≠ 90 → c ≠ 91 → τ c = σ c) → Ex (YX9_polls, 12, xB0, none) 19 [.ref 81, .int (nI k), .int (nI (stF (plV (plM n σ 83) (moS n σ) pl ti q k) h)), .int (nI h)] [] (xMs τ) (xQ (fun v σ' => v = some (.int (nI (stF (plV (plM n σ 83) (moS n σ) pl ti q k) 21))) ∧ fM σ σ')) := by
    intro j
    induction j with
    | zero =>
      intro h τ hh hI
      obtain rfl : h = 21 := by omega
      refine x_iload_n dX9_polls_19 rfl ?_
      refine x_bipush (v := 20) dX9_polls_20 (by decide) ?_
      refine x_icmp_gt (tgt := 58) dX9_polls_22 (by decide) (fun c_22 => ?_) (fun c_22 => (absurd (by decide) c_22))
      refine x_iload_n dX9_polls_58 rfl ?_
      exact s_iret dX9_polls_59 rfl (⟨rfl, hI.1, fun i => by rw [hI.2.2 81 (by decide) (by decide) (by decide)], fun c _ a b d => hI.2.2 c a b d⟩)
    | succ j ih =>
      intro h τ hh hI
      have hkn : h < 21 := by omega
      have f3 : ∀ c, c ≠ 85 → c ≠ 90 → c ≠ 91 → sg τ 85 (8 + k) (nI h) c = σ c := fun c a b d => by rw [sg_n _ _ _ a]; exact hI.2.2 c a b d
      have ep : plM n (sg τ 85 (8 + k) (nI h)) 83 = plM n σ 83 := plM_fr (f3 83 (by decide) (by decide) (by decide))
      have em : moS n (sg τ 85 (8 + k) (nI h)) = ((moS n σ).1, upd (moS n σ).2.1 k (nI h), (moS n σ).2.2) := by
        rw [← moS_fr (n := n) (σ := σ) (σ' := τ) hI.1 hn8]
        unfold moS
        rw [← tr_upd hk]
        refine congr (congrArg Prod.mk ?_) (congr (congrArg Prod.mk ?_) (congr (congrArg Prod.mk ?_) ?_))
        · exact tr_ext fun i hi => sg_k _ _ _ (by omega)
        · refine tr_ext fun i hi => ?_
          rw [sg_row]
          unfold upd
          by_cases e : i = k
          · rw [if_pos (by omega), if_pos e]
          · rw [if_neg (by omega), if_neg e]
        · exact sg_k _ _ _ (by omega)
        · exact sg_k _ _ _ (by omega)
      have ho' : Wm n ((moS n σ).1, upd (moS n σ).2.1 k (nI h), (moS n σ).2.2) := ⟨ho.1, fun i hi => by
        show ∃ a, a ≤ 20 ∧ upd (moS n σ).2.1 k (nI h) i = nI a
        unfold upd
        by_cases e : i = k
        · rw [if_pos e]; exact ⟨h, by omega, rfl⟩
        · rw [if_neg e]; exact ho.2.1 i hi, ho.2.2⟩
      have hs := k_isSo (sg τ 85 (8 + k) (nI h)) (n := n) (q := q) (pl := pl) (ti := ti) (by rw [f3 83 (by decide) (by decide) (by decide)]; exact hn) (by rw [ep]; exact hp) (by rw [em]; exact ho') (by unfold NB; rw [f3 81 (by decide) (by decide) (by decide)]; exact hb) (by rw [f3 81 (by decide) (by decide) (by decide)]; exact hq) hq6 (by rw [f3 89 (by decide) (by decide) (by decide)]; exact hN)
      rw [ep, em] at hs
      have hv : asF (plM n σ 83) ((moS n σ).1, upd (moS n σ).2.1 k (nI h), (moS n σ).2.2) pl ti q 20 = plV (plM n σ 83) (moS n σ) pl ti q k h := rfl
      rw [hv] at hs
      have step : ∀ (x : Int32) (τ2 : Sg), x = nI (stF (plV (plM n σ 83) (moS n σ) pl ti q k) (h + 1)) → ((∀ i, i < 18 → τ2 85 i = σ 85 i) ∧ (∀ i, i < 18 → τ2 91 i = σ 85 i) ∧ ∀ c, c ≠ 85 → c ≠ 90 → c ≠ 91 → τ2 c = σ c) → Ex (YX9_polls, 12, xB0, none) 19 [.ref 81, .int (nI k), .int x, .int (nI (h + 1))] [] (xMs τ2) (xQ (fun v σ' => v = some (.int (nI (stF (plV (plM n σ 83) (moS n σ) pl ti q k) 21))) ∧ fM σ σ')) := fun x τ2 hx hf => by
        subst hx
        exact ih (h + 1) τ2 (by omega) hf
      refine x_iload_n dX9_polls_19 rfl ?_
      refine x_bipush (v := 20) dX9_polls_20 (by decide) ?_
      refine x_icmp_gt (tgt := 58) dX9_polls_22 (by decide) (fun c_22 => (absurd c_22 (show ¬ nI 20 < nI h from nI_nlt (by omega) (by decide)))) (fun c_22 => ?_)
      refine x_aload_n dX9_polls_25 rfl ?_
      refine s_getr (ci := 9) (k := 4) (N := 20) (C := RX9) (T := TX9) dX9_polls_26 lfX9_19 inX9 rfl (by decide) (rfl) rfl ?_
      refine x_bipush (v := 8) dX9_polls_29 (by decide) ?_
      refine x_iload_n dX9_polls_31 rfl ?_
      refine x_iadd dX9_polls_32 ?_
      refine x_iload_n dX9_polls_33 rfl ?_
      refine s_iast dX9_polls_34 (rfl) (hi := nI_add 8 k) (hj := by omega) (hn := by decide) ?_
      refine x_iload_n dX9_polls_35 rfl ?_
      refine x_aload_n dX9_polls_36 rfl ?_
      refine s_callV dX9_polls_37 (hs) rfl w_X9_isSo lmX9_160 im_X9_isSo se_X9_isSo rfl (rfl) rfl (Nat.le_of_ble_eq_true rfl) rfl (by decide) (fun v_37 σ_37 h_37 => ?_)
      obtain ⟨rfl, g1, g2⟩ := h_37
      have g3 : (∀ i, i < 18 → σ_37 85 i = σ 85 i) ∧ (∀ i, i < 18 → σ_37 91 i = σ 85 i) ∧ ∀ c, c ≠ 85 → c ≠ 90 → c ≠ 91 → σ_37 c = σ c := ⟨fun i hi => by rw [g1 i hi, sg_n _ _ _ (by decide)]; exact hI.2.1 i hi, fun i hi => by rw [g2 91 (by decide) (by decide), sg_n _ _ _ (by decide)]; exact hI.2.1 i hi, fun c a b d => by rw [g2 c a b]; exact f3 c a b d⟩
      refine x_if_eq (tgt := 49) dX9_polls_40 (by decide) (fun c_40 => ?_) (fun c_40 => ?_)
      · refine x_iconst (v := 0) dX9_polls_49 (by decide) ?_
        refine x_ior dX9_polls_50 ?_
        refine x_istore_n dX9_polls_51 (Nat.le_of_ble_eq_true rfl) rfl ?_
        refine s_iinc dX9_polls_52 rfl (Nat.le_of_ble_eq_true rfl) rfl ?_
        refine x_goto (tgt := 19) dX9_polls_55 (by decide) ?_
        first
          | exact step _ _ (stF_s (by omega) (bI_n c_40)) g3
          | (rw [Int32.or_zero]; exact step _ _ (stF_n (fun z => by rw [z] at c_40; exact absurd c_40 (by decide))) g3)
      · refine x_iconst (v := 1) dX9_polls_43 (by decide) ?_
        refine x_iload_n dX9_polls_44 rfl ?_
        refine x_ishl dX9_polls_45 ?_
        refine x_goto (tgt := 50) dX9_polls_46 (by decide) ?_
        refine x_ior dX9_polls_50 ?_
        refine x_istore_n dX9_polls_51 (Nat.le_of_ble_eq_true rfl) rfl ?_
        refine s_iinc dX9_polls_52 rfl (Nat.le_of_ble_eq_true rfl) rfl ?_
        refine x_goto (tgt := 19) dX9_polls_55 (by decide) ?_
        first
          | exact step _ _ (stF_s (by omega) (bI_n c_40)) g3
          | (rw [Int32.or_zero]; exact step _ _ (stF_n (fun z => by rw [z] at c_40; exact absurd c_40 (by decide))) g3)
  refine x_aload_n dX9_polls_0 rfl ?_
  refine x_iload_n dX9_polls_1 rfl ?_
  refine s_callV dX9_polls_2 (k_isStreet σ hn hn8 _) rfl w_X9_isStreet lmX9_129 im_X9_isStreet se_X9_isStreet rfl (rfl) rfl (Nat.le_of_ble_eq_true rfl) rfl (by decide) (fun v_2 σ_2 h_2 => ?_)
  obtain ⟨rfl, z_2⟩ := h_2
  have z_2 := z_2.symm
  subst z_2
  refine x_if_ne (tgt := 11) dX9_polls_5 (by decide) (fun c_5 => ?_) (fun c_5 => (absurd c_5 (by rw [inb_nI hk (by omega)]; decide)))
  refine x_aload_n dX9_polls_11 rfl ?_
  refine s_callV dX9_polls_12 (k_holds σ) rfl w_X9_holds lmX9_145 im_X9_holds se_X9_holds rfl (rfl) rfl (Nat.le_of_ble_eq_true rfl) rfl (by decide) (fun v_12 σ_12 h_12 => ?_)
  obtain ⟨rfl, W, hW, rfl⟩ := h_12
  refine x_iconst (v := 0) dX9_polls_15 (by decide) ?_
  refine x_istore_n dX9_polls_16 (Nat.le_of_ble_eq_true rfl) rfl ?_
  refine x_iconst (v := 0) dX9_polls_17 (by decide) ?_
  refine x_istore_n dX9_polls_18 (Nat.le_of_ble_eq_true rfl) rfl ?_
  exact loop 21 0 _ (by omega) ⟨fun i hi => by rw [sw_n _ _ (by decide)], fun i hi => by rw [sw_s]; exact hW i hi, fun c _ _ b => sw_n _ _ b⟩
