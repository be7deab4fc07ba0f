/-! ===== RainBallot's calls, 7: polls ===== -/

theorem ldF_n {ti : FN} : ∀ q, (∀ i, i < q → ∃ t, t ≤ 20 ∧ ti i = nI t) → ∃ l, l ≤ 20 ∧ ldF ti q = nI l ∧ ∀ i t, i < q → t ≤ 20 → ti i = nI t → t ≤ l := by
  intro q
  induction q with
  | zero => intro _; exact ⟨0, by omega, rfl, fun i t h => by omega⟩
  | succ q ih =>
    intro h
    obtain ⟨l, h1, h2, h3⟩ := ih (fun i hi => h i (by omega))
    obtain ⟨t, g1, g2⟩ := h q (by omega)
    have key : ∀ i u, i < q + 1 → u ≤ 20 → ti i = nI u → (i < q ∧ u ≤ l) ∨ u = t := fun i u hi hu e => by
      by_cases hq : i < q
      · exact Or.inl ⟨hq, h3 i u hq hu e⟩
      · obtain rfl : i = q := by omega
        exact Or.inr ((nI_eq (by omega) (by omega)).mp (e.symm.trans g2))
    show ∃ l, l ≤ 20 ∧ (if ldF ti q < ti q then ti q else ldF ti q) = nI l ∧ _
    rw [h2, g2]
    by_cases c : nI l < nI t
    · have := (nI_ltI (by omega) (by omega)).mp c
      rw [if_pos c]
      exact ⟨t, g1, rfl, fun i u hi hu e => by rcases key i u hi hu e with ⟨-, k⟩ | k <;> omega⟩
    · have hnl : ¬ t > l := fun z => c ((nI_ltI (by omega) (by omega)).mpr z)
      rw [if_neg c]
      exact ⟨l, h1, rfl, fun i u hi hu e => by rcases key i u hi hu e with ⟨-, k⟩ | k <;> omega⟩
theorem alF_late {pl ti : FN} {s n : Int32} : ∀ q, (∀ i, i < q → ¬ ti i = n) → alF pl ti s n q = true := by
  intro q
  induction q with
  | zero => intro _; rfl
  | succ q ih =>
    intro h
    unfold alF
    rw [ih (fun i hi => h i (by omega)), decide_eq_false (h q (by omega))]
    rfl
theorem asF_late {p : PL} {o : MO} {pl ti : FN} {q l : Nat} (hl : ∀ i, i < q → ∃ t, t ≤ l ∧ ti i = nI t) : ∀ k, l + k ≤ 1000 → asF p o pl ti q (l + k) = asF p o pl ti q l := by
  intro k
  induction k with
  | zero => intro _; rfl
  | succ k ih =>
    intro h
    show (asF p o pl ti q (l + k) && alF pl ti (caF p (itF p o (l + k)) 0 0 (-1)) (nI (l + k + 1)) q) = _
    rw [ih (by omega), alF_late (n := nI (l + k + 1)) q (fun i hi z => by
      obtain ⟨t, h1, h2⟩ := hl i hi
      have := (nI_eq (by omega) (by omega)).mp (h2.symm.trans z)
      omega), Bool.and_true]
theorem asF_20 {p : PL} {o : MO} {pl ti : FN} {q : Nat} (h : ∀ i, i < q → ∃ t, t ≤ 20 ∧ ti i = nI t) : ∃ l, l ≤ 20 ∧ ldF ti q = nI l ∧ ∀ o, asF p o pl ti q l = asF p o pl ti q 20 := by
  obtain ⟨l, h1, h2, h3⟩ := ldF_n q h
  refine ⟨l, h1, h2, fun o => ?_⟩
  have := asF_late (p := p) (o := o) (pl := pl) (q := q) (l := l) (fun i hi => by obtain ⟨t, g1, g2⟩ := h i hi; exact ⟨t, h3 i t hi g1 g2, g2⟩) (20 - l) (by omega)
  rw [show l + (20 - l) = 20 by omega] at this
  exact this.symm
/-- voters of a street by which all goes as was seen -/
def plV (p : PL) (o : MO) (pl ti : FN) (q s v : Nat) : Bool := asF p (o.1, upd o.2.1 s (nI v), o.2.2) pl ti q 20
set_option maxRecDepth 100000 in
set_option maxHeartbeats 1000000 in
theorem k_polls (σ : Sg) {n k q : Nat} (hn : σ 3 5 = nI n) (hn8 : n ≤ 8) (hk : k < n) (hq : σ 56 2 = nI q) (hq6 : q ≤ 6) (hti : ∀ i, i < q → ∃ t, t ≤ 20 ∧ σ 58 i = nI t) : Cm 12 YX8_polls [.ref 0, .int (nI k)] σ (fun v σ' => v = some (.int (nI (stF (plV (plC n σ) (moC n σ 15) (σ 57) (σ 58) q k) 21))) ∧ frQ σ σ') := by
  refine Cm_of (by decide +kernel) (Nat.le_of_ble_eq_true rfl) ?_
  obtain ⟨l, hl20, hl, has⟩ := asF_20 (p := plC n σ) (o := moC n σ 15) (pl := σ 57) hti
  have loop : ∀ (j h : Nat) (τ : Sg), h + j = 21 → (∀ c, c ≠ 18 → c ≠ 19 → c ≠ 20 → c ≠ 59 → c ≠ 60 → c ≠ 61 → τ c = σ c) → Ex (YX8_polls, 12, xB0, none) 18 [.ref 0, .int (nI k), .int (nI (stF (plV (plC n σ) (moC n σ 15) (σ 57) (σ 58) q k) h)), .int (nI h)] [] (xMs τ) (xQ (fun v σ' => v = some (.int (nI (stF (plV (plC n σ) (moC n σ 15) (σ 57) (σ 58) q k) 21))) ∧ frQ σ σ')) := by
    intro j
    induction j with
    | zero =>
      intro h τ hh hI
      obtain rfl : h = 21 := by omega
      refine x_iload_n dX8_polls_18 rfl ?_
      refine x_bipush (v := 20) dX8_polls_19 (by decide) ?_
      refine x_icmp_gt (tgt := 64) dX8_polls_21 (by decide) (fun c_21 => ?_) (fun c_21 => (absurd (by decide) c_21))
      refine x_iload_n dX8_polls_64 rfl ?_
      exact s_iret dX8_polls_65 rfl (⟨rfl, fun c hc => hI c (by omega) (by omega) (by omega) (by omega) (by omega) (by omega)⟩)
    | succ j ih =>
      intro h τ hh hI
      have hkn : h < 21 := by omega
      have hp : plC n τ = plC n σ := plC_fr (fun c a b => hI c (by omega) (by omega) (by omega) (by omega) (by omega) (by omega))
      have hmo : moC n τ 15 = moC n σ 15 := moC_fr (fun c a b => hI c (by omega) (by omega) (by omega) (by omega) (by omega) (by omega))
      have step : ∀ (x : Int32) (τ2 : Sg), x = nI (stF (plV (plC n σ) (moC n σ 15) (σ 57) (σ 58) q k) (h + 1)) → (∀ c, c ≠ 18 → c ≠ 19 → c ≠ 20 → c ≠ 59 → c ≠ 60 → c ≠ 61 → τ2 c = σ c) → Ex (YX8_polls, 12, xB0, none) 18 [.ref 0, .int (nI k), .int x, .int (nI (h + 1))] [] (xMs τ2) (xQ (fun v σ' => v = some (.int (nI (stF (plV (plC n σ) (moC n σ 15) (σ 57) (σ 58) q k) 21))) ∧ frQ σ σ')) := fun x τ2 hx hf => by
        subst hx
        exact ih (h + 1) τ2 (by omega) hf
      refine x_iload_n dX8_polls_18 rfl ?_
      refine x_bipush (v := 20) dX8_polls_19 (by decide) ?_
      refine x_icmp_gt (tgt := 64) dX8_polls_21 (by decide) (fun c_21 => (absurd c_21 (show ¬ nI 20 < nI h from nI_nlt (by omega) (by decide)))) (fun c_21 => ?_)
      refine x_aload_n dX8_polls_24 rfl ?_
      refine s_getr (ci := 8) (k := 4) (N := 10) (C := RX8) (T := TX8) dX8_polls_25 lfX8_33 inX8 rfl (by decide) (rfl) rfl ?_
      refine x_aload_n dX8_polls_28 rfl ?_
      refine s_getr (ci := 8) (k := 3) (N := 10) (C := RX8) (T := TX8) dX8_polls_29 lfX8_29 inX8 rfl (by decide) (rfl) rfl ?_
      refine s_callV dX8_polls_32 (k_mocopy τ mo_18 mo_15 (by decide)) rfl w_X1_copyFrom lmX8_198 im_X1_copyFrom se_X1_copyFrom rfl (rfl) rfl (Nat.le_of_ble_eq_true rfl) rfl (by decide) (fun v_32 σ_32 h_32 => ?_)
      obtain ⟨rfl, g1, g2⟩ := h_32
      refine x_aload_n dX8_polls_35 rfl ?_
      refine s_getr (ci := 8) (k := 4) (N := 10) (C := RX8) (T := TX8) dX8_polls_36 lfX8_33 inX8 rfl (by decide) (rfl) rfl ?_
      refine s_getrN (ci := 1) (k := 1) (N := 4) (C := RX1) (T := TX1) dX8_polls_39 lfX8_111 inX1 rfl (by decide) (rfl) rfl ?_
      refine x_iload_n dX8_polls_42 rfl ?_
      refine x_iload_n dX8_polls_43 rfl ?_
      refine s_iast dX8_polls_44 (rfl) (hi := rfl) (hj := by omega) (hn := by decide) ?_
      refine xname (fun σ_44 e_44 => ?_)
      have g4 : ∀ c, c ≠ 18 → c ≠ 19 → c ≠ 20 → c ≠ 59 → c ≠ 60 → c ≠ 61 → σ_44 c = σ c := fun c a b d a2 b2 d2 => by rw [e_44, sg_n _ _ _ d, g2 c a b d]; exact hI c a b d a2 b2 d2
      have hall := k_isAllSeen σ_44 (n := n) (q := q) (last := l) (by rw [g4 3 (by decide) (by decide) (by decide) (by decide) (by decide) (by decide)]; exact hn) hn8 (by rw [g4 56 (by decide) (by decide) (by decide) (by decide) (by decide) (by decide)]; exact hq) hq6 (by rw [g4 58 (by decide) (by decide) (by decide) (by decide) (by decide) (by decide)]; exact hl) hl20
      have em : moC n σ_44 18 = ((moC n σ 15).1, upd (moC n σ 15).2.1 k (nI h), (moC n σ 15).2.2) := by
        rw [← hmo, ← g1 n hn8]
        show (tr n (σ_44 19), tr n (σ_44 20), σ_44 18 2, σ_44 18 3) = (tr n (σ_32 19), upd (tr n (σ_32 20)) k (nI h), σ_32 18 2, σ_32 18 3)
        rw [e_44, sg_row, tr_upd hk, sg_n _ _ _ (by decide), sg_n _ _ _ (by decide)]
      rw [plC_fr (σ' := σ_44) (σ := σ) (fun c a b => g4 c (by omega) (by omega) (by omega) (by omega) (by omega) (by omega)), em, g4 57 (by decide) (by decide) (by decide) (by decide) (by decide) (by decide), g4 58 (by decide) (by decide) (by decide) (by decide) (by decide) (by decide), has] at hall
      refine x_aload_n dX8_polls_45 rfl ?_
      refine s_callV dX8_polls_46 (hall) rfl w_X8_isAllSeenInTrial lmX8_216 im_X8_isAllSeenInTrial se_X8_isAllSeenInTrial rfl (rfl) rfl (Nat.le_of_ble_eq_true rfl) rfl (by decide) (fun v_46 σ_46 h_46 => ?_)
      obtain ⟨rfl, g3⟩ := h_46
      refine x_if_eq (tgt := 58) dX8_polls_49 (by decide) (fun c_49 => ?_) (fun c_49 => ?_)
      · refine s_iinc dX8_polls_58 rfl (Nat.le_of_ble_eq_true rfl) rfl ?_
        refine x_goto (tgt := 18) dX8_polls_61 (by decide) ?_
        have g5 : ∀ c, c ≠ 18 → c ≠ 19 → c ≠ 20 → c ≠ 59 → c ≠ 60 → c ≠ 61 → σ_46 c = σ c := fun c a b d a2 b2 d2 => by rw [g3 c a b d a2 b2 d2]; exact g4 c a b d a2 b2 d2
        first
          | exact step _ _ (stF_s (by omega) (show plV (plC n σ) (moC n σ 15) (σ 57) (σ 58) q k h = true from bI_n c_49)) g5
          | exact step _ _ (stF_n (fun z => by rw [show asF (plC n σ) ((moC n σ 15).1, upd (moC n σ 15).2.1 k (nI h), (moC n σ 15).2.2) (σ 57) (σ 58) q 20 = true from z] at c_49; exact absurd c_49 (by decide))) g5
      · refine x_iload_n dX8_polls_52 rfl ?_
        refine x_iconst (v := 1) dX8_polls_53 (by decide) ?_
        refine x_iload_n dX8_polls_54 rfl ?_
        refine x_ishl dX8_polls_55 ?_
        refine x_ior dX8_polls_56 ?_
        refine x_istore_n dX8_polls_57 (Nat.le_of_ble_eq_true rfl) rfl ?_
        refine s_iinc dX8_polls_58 rfl (Nat.le_of_ble_eq_true rfl) rfl ?_
        refine x_goto (tgt := 18) dX8_polls_61 (by decide) ?_
        have g5 : ∀ c, c ≠ 18 → c ≠ 19 → c ≠ 20 → c ≠ 59 → c ≠ 60 → c ≠ 61 → σ_46 c = σ c := fun c a b d a2 b2 d2 => by rw [g3 c a b d a2 b2 d2]; exact g4 c a b d a2 b2 d2
        first
          | exact step _ _ (stF_s (by omega) (show plV (plC n σ) (moC n σ 15) (σ 57) (σ 58) q k h = true from bI_n c_49)) g5
          | exact step _ _ (stF_n (fun z => by rw [show asF (plC n σ) ((moC n σ 15).1, upd (moC n σ 15).2.1 k (nI h), (moC n σ 15).2.2) (σ 57) (σ 58) q 20 = true from z] at c_49; exact absurd c_49 (by decide))) g5
  refine x_aload_n dX8_polls_0 rfl ?_
  refine s_getr (ci := 8) (k := 1) (N := 10) (C := RX8) (T := TX8) dX8_polls_1 lfX8_19 inX8 rfl (by decide) (rfl) rfl ?_
  refine x_iload_n dX8_polls_4 rfl ?_
  refine s_callV dX8_polls_5 (k_has σ pl_3 hn hn8 (nI k)) rfl w_X3_has lmX8_100 im_X3_has se_X3_has rfl (rfl) rfl (Nat.le_of_ble_eq_true rfl) rfl (by decide) (fun v_5 σ_5 h_5 => ?_)
  obtain ⟨rfl, z_5⟩ := h_5
  have z_5 := z_5.symm
  subst z_5
  refine x_if_ne (tgt := 14) dX8_polls_8 (by decide) (fun c_8 => ?_) (fun c_8 => (absurd c_8 (by rw [inb_nI hk (by omega)]; decide)))
  refine x_iconst (v := 0) dX8_polls_14 (by decide) ?_
  refine x_istore_n dX8_polls_15 (Nat.le_of_ble_eq_true rfl) rfl ?_
  refine x_iconst (v := 0) dX8_polls_16 (by decide) ?_
  refine x_istore_n dX8_polls_17 (Nat.le_of_ble_eq_true rfl) rfl ?_
  exact loop 21 0 σ (by omega) (fun c _ _ _ _ _ _ => rfl)
