/-! ===== RainBallot's calls, 6: reach, month, polls, chance ===== -/

/-- from where some comes to a street -/
def rcF (p : PL) (w : FN) (s : Nat) : Nat := stF (fun a => (flA p (nI a) w).1.testBit s) p.1
theorem flA_lt {p : PL} {s : Int32} {w : FN} (h : p.1 ≤ 8) : (flA p s w).1 < 256 := flF_lt h 8 0 s _ w (by decide)
set_option maxRecDepth 100000 in
theorem k_reach (σ : Sg) {n k : Nat} (hn : σ 3 5 = nI n) (hn8 : n ≤ 8) (hk : k < n) : Cm 12 YX8_reach [.ref 0, .int (nI k)] σ (fun v σ' => v = some (.int (nI (rcF (plC n σ) (moC n σ 15).1 k))) ∧ frQ σ σ') := by
  refine Cm_of (by decide +kernel) (Nat.le_of_ble_eq_true rfl) ?_
  have loop : ∀ (j h : Nat) (τ : Sg), h + j = n → (∀ c, c ≠ 18 → c ≠ 19 → c ≠ 20 → τ c = σ c) → Ex (YX8_reach, 12, xB0, none) 18 [.ref 0, .int (nI k), .int (nI (stF (fun a => (flA (plC n σ) (nI a) (moC n σ 15).1).1.testBit k) h)), .int (nI h)] [] (xMs τ) (xQ (fun v σ' => v = some (.int (nI (rcF (plC n σ) (moC n σ 15).1 k))) ∧ frQ σ σ')) := by
    intro j
    induction j with
    | zero =>
      intro h τ hh hI
      obtain rfl : h = n := by omega
      have hn' : τ 3 5 = nI h := by rw [hI 3 (by decide) (by decide) (by decide)]; exact hn
      refine x_iload_n dX8_reach_18 rfl ?_
      refine x_aload_n dX8_reach_19 rfl ?_
      refine s_getr (ci := 8) (k := 1) (N := 10) (C := RX8) (T := TX8) dX8_reach_20 lfX8_19 inX8 rfl (by decide) (rfl) rfl ?_
      refine s_getiN (ci := 3) (k := 5) (N := 8) (C := RX3) (T := TX3) dX8_reach_23 lfX8_187 inX3 rfl (by decide) (rfl) rfl ?_
      refine x_icmp_ge (tgt := 71) dX8_reach_26 (by decide) (fun c_26 => ?_) (fun c_26 => (absurd (by rw [hn']; exact Int32.le_refl _) c_26))
      refine x_iload_n dX8_reach_71 rfl ?_
      exact s_iret dX8_reach_72 rfl (⟨rfl, fun c hc => hI c (by omega) (by omega) (by omega)⟩)
    | succ j ih =>
      intro h τ hh hI
      have hkn : h < n := by omega
      have hn' : τ 3 5 = nI n := by rw [hI 3 (by decide) (by decide) (by decide)]; exact hn
      have hp : plC n τ = plC n σ := plC_fr (fun c a b => hI c (by omega) (by omega) (by omega))
      have hmo : moC n τ 15 = moC n σ 15 := moC_fr (fun c a b => hI c (by omega) (by omega) (by omega))
      have step : ∀ (x : Int32) (τ2 : Sg), x = nI (stF (fun a => (flA (plC n σ) (nI a) (moC n σ 15).1).1.testBit k) (h + 1)) → (∀ c, c ≠ 18 → c ≠ 19 → c ≠ 20 → τ2 c = σ c) → Ex (YX8_reach, 12, xB0, none) 18 [.ref 0, .int (nI k), .int x, .int (nI (h + 1))] [] (xMs τ2) (xQ (fun v σ' => v = some (.int (nI (rcF (plC n σ) (moC n σ 15).1 k))) ∧ frQ σ σ')) := fun x τ2 hx hf => by
        subst hx
        exact ih (h + 1) τ2 (by omega) hf
      refine x_iload_n dX8_reach_18 rfl ?_
      refine x_aload_n dX8_reach_19 rfl ?_
      refine s_getr (ci := 8) (k := 1) (N := 10) (C := RX8) (T := TX8) dX8_reach_20 lfX8_19 inX8 rfl (by decide) (rfl) rfl ?_
      refine s_getiN (ci := 3) (k := 5) (N := 8) (C := RX3) (T := TX3) dX8_reach_23 lfX8_187 inX3 rfl (by decide) (rfl) rfl ?_
      refine x_icmp_ge (tgt := 71) dX8_reach_26 (by decide) (fun c_26 => (absurd c_26 (by rw [hn']; exact nI_ge hkn (by omega)))) (fun c_26 => ?_)
      refine x_aload_n dX8_reach_29 rfl ?_
      refine s_getr (ci := 8) (k := 4) (N := 10) (C := RX8) (T := TX8) dX8_reach_30 lfX8_33 inX8 rfl (by decide) (rfl) rfl ?_
      refine x_aload_n dX8_reach_33 rfl ?_
      refine s_getr (ci := 8) (k := 3) (N := 10) (C := RX8) (T := TX8) dX8_reach_34 lfX8_29 inX8 rfl (by decide) (rfl) rfl ?_
      refine s_callV dX8_reach_37 (k_mocopy τ mo_18 mo_15 (by decide)) rfl w_X1_copyFrom lmX8_198 im_X1_copyFrom se_X1_copyFrom rfl (rfl) rfl (Nat.le_of_ble_eq_true rfl) rfl (by decide) (fun v_37 σ_37 h_37 => ?_)
      obtain ⟨rfl, g1, g2⟩ := h_37
      refine x_aload_n dX8_reach_40 rfl ?_
      refine s_getr (ci := 8) (k := 4) (N := 10) (C := RX8) (T := TX8) dX8_reach_41 lfX8_33 inX8 rfl (by decide) (rfl) rfl ?_
      refine x_aload_n dX8_reach_44 rfl ?_
      refine s_getr (ci := 8) (k := 1) (N := 10) (C := RX8) (T := TX8) dX8_reach_45 lfX8_19 inX8 rfl (by decide) (rfl) rfl ?_
      refine x_iload_n dX8_reach_48 rfl ?_
      refine s_callV dX8_reach_49 (k_fall σ_37 mo_18 (n := n) (by rw [g2 3 (by decide) (by decide) (by decide)]; exact hn') hn8 (nI h)) rfl w_X1_fall lmX8_200 im_X1_fall se_X1_fall rfl (rfl) rfl (Nat.le_of_ble_eq_true rfl) rfl (by decide) (fun v_49 σ_49 h_49 => ?_)
      obtain ⟨rfl, W, rfl, hW⟩ := h_49
      have ep : plC n σ_37 = plC n σ := by rw [plC_fr (σ' := σ_37) (σ := τ) (fun c a b => g2 c (by omega) (by omega) (by omega))]; exact hp
      have em : tr n (σ_37 19) = (moC n σ 15).1 := by rw [← hmo, ← g1 n hn8]; rfl
      rw [ep, em]
      have bb := bz_bit (a := (flA (plC n σ) (nI h) (moC n σ 15).1).1) (k := k) (Nat.lt_trans (flA_lt (p := plC n σ) hn8) (by decide)) (by omega)
      have ff : ∀ c, c ≠ 18 → c ≠ 19 → c ≠ 20 → sw σ_37 19 W c = σ c := fun c a b d => by rw [sw_n _ _ b, g2 c a b d]; exact hI c a b d
      refine x_iload_n dX8_reach_52 rfl ?_
      refine x_ishr dX8_reach_53 ?_
      refine x_iconst (v := 1) dX8_reach_54 (by decide) ?_
      refine x_iand dX8_reach_55 ?_
      rw [bb]
      refine x_if_eq (tgt := 65) dX8_reach_56 (by decide) (fun c_56 => ?_) (fun c_56 => ?_)
      · refine s_iinc dX8_reach_65 rfl (Nat.le_of_ble_eq_true rfl) rfl ?_
        refine x_goto (tgt := 18) dX8_reach_68 (by decide) ?_
        first
          | exact step _ _ (stF_s (by omega) (bI_n c_56)) ff
          | exact step _ _ (stF_n (fun z => by rw [z] at c_56; exact absurd c_56 (by decide))) ff
      · refine x_iload_n dX8_reach_59 rfl ?_
        refine x_iconst (v := 1) dX8_reach_60 (by decide) ?_
        refine x_iload_n dX8_reach_61 rfl ?_
        refine x_ishl dX8_reach_62 ?_
        refine x_ior dX8_reach_63 ?_
        refine x_istore_n dX8_reach_64 (Nat.le_of_ble_eq_true rfl) rfl ?_
        refine s_iinc dX8_reach_65 rfl (Nat.le_of_ble_eq_true rfl) rfl ?_
        refine x_goto (tgt := 18) dX8_reach_68 (by decide) ?_
        first
          | exact step _ _ (stF_s (by omega) (bI_n c_56)) ff
          | exact step _ _ (stF_n (fun z => by rw [z] at c_56; exact absurd c_56 (by decide))) ff
  refine x_aload_n dX8_reach_0 rfl ?_
  refine s_getr (ci := 8) (k := 1) (N := 10) (C := RX8) (T := TX8) dX8_reach_1 lfX8_19 inX8 rfl (by decide) (rfl) rfl ?_
  refine x_iload_n dX8_reach_4 rfl ?_
  refine s_callV dX8_reach_5 (k_has σ pl_3 hn hn8 (nI k)) rfl w_X3_has lmX8_100 im_X3_has se_X3_has rfl (rfl) rfl (Nat.le_of_ble_eq_true rfl) rfl (by decide) (fun v_5 σ_5 h_5 => ?_)
  obtain ⟨rfl, z_5⟩ := h_5
  have z_5 := z_5.symm
  subst z_5
  refine x_if_ne (tgt := 14) dX8_reach_8 (by decide) (fun c_8 => ?_) (fun c_8 => (absurd c_8 (by rw [inb_nI hk (by omega)]; decide)))
  refine x_iconst (v := 0) dX8_reach_14 (by decide) ?_
  refine x_istore_n dX8_reach_15 (Nat.le_of_ble_eq_true rfl) rfl ?_
  refine x_iconst (v := 0) dX8_reach_16 (by decide) ?_
  refine x_istore_n dX8_reach_17 (Nat.le_of_ble_eq_true rfl) rfl ?_
  exact loop n 0 σ (by omega) (fun c _ _ _ => rfl)
theorem inq4 {k : Int32} (h : ¬ inq 4 k) : k < -1 ∨ ¬ k < 4 := by
  rcases pk_ix k (n := 4) (by decide) with q | q | ⟨j, q1, q2⟩
  · rcases Classical.em (k < -1) with r | r
    · exact Or.inl r
    · refine absurd (Or.inl ?_) h
      apply Int32.toInt_inj.mp
      have h1 := Int32.lt_iff_toInt_lt.mp q
      have h2 : ¬ k.toInt < (-1 : Int32).toInt := fun z => r (Int32.lt_iff_toInt_lt.mpr z)
      have h3 : (-1 : Int32).toInt = -1 := by decide
      have h4 : (0 : Int32).toInt = 0 := by decide
      omega
  · exact Or.inr (Int32.not_lt.mpr q)
  · exact absurd (Or.inr ⟨j, q1, q2⟩) h
set_option maxRecDepth 100000 in
theorem k_month_o (σ : Sg) (w k : Int32) (h : rgF 1 4 w = false ∨ ¬ inq 4 k) : Cm 12 YX8_month [.ref 0, .int w, .int k] σ (fun v σ' => v = some (.int (-3)) ∧ σ' = σ) := by
  refine Cm_of (by decide +kernel) (Nat.le_of_ble_eq_true rfl) ?_
  have ok : ∀ {q : Prop}, ¬ w < 1 → ¬ 4 < w → ¬ k < -1 → k < 4 → q := fun h1 h2 h3 h4 => by
    rcases h with h | h
    · rcases rgF_no h with q | q
      · exact absurd q h1
      · exact absurd q h2
    · rcases inq4 h with q | q
      · exact absurd q h3
      · exact absurd h4 q
  refine x_iload_n dX8_month_0 rfl ?_
  refine x_iconst (v := 1) dX8_month_1 (by decide) ?_
  refine x_icmp_lt (tgt := 20) dX8_month_2 (by decide) (fun c_2 => ?_) (fun c_2 => ?_)
  · refine x_bipush (v := -3) dX8_month_20 (by decide) ?_
    exact s_iret dX8_month_22 rfl (⟨rfl, rfl⟩)
  · refine x_iload_n dX8_month_5 rfl ?_
    refine x_iconst (v := 4) dX8_month_6 (by decide) ?_
    refine x_icmp_gt (tgt := 20) dX8_month_7 (by decide) (fun c_7 => ?_) (fun c_7 => ?_)
    · refine x_bipush (v := -3) dX8_month_20 (by decide) ?_
      exact s_iret dX8_month_22 rfl (⟨rfl, rfl⟩)
    · refine x_iload_n dX8_month_10 rfl ?_
      refine x_iconst (v := -1) dX8_month_11 (by decide) ?_
      refine x_icmp_lt (tgt := 20) dX8_month_12 (by decide) (fun c_12 => ?_) (fun c_12 => ?_)
      · refine x_bipush (v := -3) dX8_month_20 (by decide) ?_
        exact s_iret dX8_month_22 rfl (⟨rfl, rfl⟩)
      · refine x_iload_n dX8_month_15 rfl ?_
        refine x_iconst (v := 4) dX8_month_16 (by decide) ?_
        refine x_icmp_lt (tgt := 23) dX8_month_17 (by decide) (fun c_17 => (ok c_2 c_7 c_12 c_17)) (fun c_17 => ?_)
        refine x_bipush (v := -3) dX8_month_20 (by decide) ?_
        exact s_iret dX8_month_22 rfl (⟨rfl, rfl⟩)

set_option maxRecDepth 100000 in
theorem k_month_z (σ : Sg) {D : Nat} (hn : σ 3 5 = 0) (hD1 : 1 ≤ D) (hD4 : D ≤ 4) (k : Int32) (hk : inq 4 k) : Cm 12 YX8_month [.ref 0, .int (nI D), .int k] σ (fun v σ' => v = some (.int (-1)) ∧ σ' = σ) := by
  refine Cm_of (by decide +kernel) (Nat.le_of_ble_eq_true rfl) ?_
  rcases hk with rfl | ⟨j, hj4, rfl⟩
  · skip
    refine x_iload_n dX8_month_0 rfl ?_
    refine x_iconst (v := 1) dX8_month_1 (by decide) ?_
    refine x_icmp_lt (tgt := 20) dX8_month_2 (by decide) (fun c_2 => (absurd c_2 (show ¬ nI D < nI 1 from nI_nlt hD1 (by omega)))) (fun c_2 => ?_)
    refine x_iload_n dX8_month_5 rfl ?_
    refine x_iconst (v := 4) dX8_month_6 (by decide) ?_
    refine x_icmp_gt (tgt := 20) dX8_month_7 (by decide) (fun c_7 => (absurd c_7 (show ¬ nI 4 < nI D from nI_nlt hD4 (by decide)))) (fun c_7 => ?_)
    refine x_iload_n dX8_month_10 rfl ?_
    refine x_iconst (v := -1) dX8_month_11 (by decide) ?_
    refine x_icmp_lt (tgt := 20) dX8_month_12 (by decide) (fun c_12 => (absurd c_12 (by decide))) (fun c_12 => ?_)
    refine x_iload_n dX8_month_15 rfl ?_
    refine x_iconst (v := 4) dX8_month_16 (by decide) ?_
    refine x_icmp_lt (tgt := 23) dX8_month_17 (by decide) (fun c_17 => ?_) (fun c_17 => (absurd (by decide) c_17))
    refine x_aload_n dX8_month_23 rfl ?_
    refine s_getr (ci := 8) (k := 1) (N := 10) (C := RX8) (T := TX8) dX8_month_24 lfX8_19 inX8 rfl (by decide) (rfl) rfl ?_
    refine s_getiN (ci := 3) (k := 5) (N := 8) (C := RX3) (T := TX3) dX8_month_27 lfX8_187 inX3 rfl (by decide) (rfl) rfl ?_
    refine x_if_eq (tgt := 38) dX8_month_30 (by decide) (fun c_30 => ?_) (fun c_30 => (absurd hn c_30))
    refine x_iconst (v := -1) dX8_month_38 (by decide) ?_
    exact s_iret dX8_month_39 rfl (⟨rfl, rfl⟩)
  · have hj0 : ¬ nI j < -1 := fun z => nI_pos (n := j) (by omega) (Int32.lt_trans z (by decide))
    refine x_iload_n dX8_month_0 rfl ?_
    refine x_iconst (v := 1) dX8_month_1 (by decide) ?_
    refine x_icmp_lt (tgt := 20) dX8_month_2 (by decide) (fun c_2 => (absurd c_2 (show ¬ nI D < nI 1 from nI_nlt hD1 (by omega)))) (fun c_2 => ?_)
    refine x_iload_n dX8_month_5 rfl ?_
    refine x_iconst (v := 4) dX8_month_6 (by decide) ?_
    refine x_icmp_gt (tgt := 20) dX8_month_7 (by decide) (fun c_7 => (absurd c_7 (show ¬ nI 4 < nI D from nI_nlt hD4 (by decide)))) (fun c_7 => ?_)
    refine x_iload_n dX8_month_10 rfl ?_
    refine x_iconst (v := -1) dX8_month_11 (by decide) ?_
    refine x_icmp_lt (tgt := 20) dX8_month_12 (by decide) (fun c_12 => (absurd c_12 hj0)) (fun c_12 => ?_)
    refine x_iload_n dX8_month_15 rfl ?_
    refine x_iconst (v := 4) dX8_month_16 (by decide) ?_
    refine x_icmp_lt (tgt := 23) dX8_month_17 (by decide) (fun c_17 => ?_) (fun c_17 => (absurd (show nI j < nI 4 from nI_lt hj4 (by decide)) c_17))
    refine x_aload_n dX8_month_23 rfl ?_
    refine s_getr (ci := 8) (k := 1) (N := 10) (C := RX8) (T := TX8) dX8_month_24 lfX8_19 inX8 rfl (by decide) (rfl) rfl ?_
    refine s_getiN (ci := 3) (k := 5) (N := 8) (C := RX3) (T := TX3) dX8_month_27 lfX8_187 inX3 rfl (by decide) (rfl) rfl ?_
    refine x_if_eq (tgt := 38) dX8_month_30 (by decide) (fun c_30 => ?_) (fun c_30 => (absurd hn c_30))
    refine x_iconst (v := -1) dX8_month_38 (by decide) ?_
    exact s_iret dX8_month_39 rfl (⟨rfl, rfl⟩)
set_option maxRecDepth 100000 in
theorem k_month_l (σ : Sg) {n D j : Nat} (hn : σ 3 5 = nI n) (hn8 : n ≤ 8) (hD1 : 1 ≤ D) (hD4 : D ≤ 4) (hj4 : j < 4) (hj : D ≤ j) : Cm 12 YX8_month [.ref 0, .int (nI D), .int (nI j)] σ (fun v σ' => v = some (.int (-1)) ∧ σ' = σ) := by
  refine Cm_of (by decide +kernel) (Nat.le_of_ble_eq_true rfl) ?_
  have hj0 : ¬ nI j < -1 := fun z => nI_pos (n := j) (by omega) (Int32.lt_trans z (by decide))
  refine x_iload_n dX8_month_0 rfl ?_
  refine x_iconst (v := 1) dX8_month_1 (by decide) ?_
  refine x_icmp_lt (tgt := 20) dX8_month_2 (by decide) (fun c_2 => (absurd c_2 (show ¬ nI D < nI 1 from nI_nlt hD1 (by omega)))) (fun c_2 => ?_)
  refine x_iload_n dX8_month_5 rfl ?_
  refine x_iconst (v := 4) dX8_month_6 (by decide) ?_
  refine x_icmp_gt (tgt := 20) dX8_month_7 (by decide) (fun c_7 => (absurd c_7 (show ¬ nI 4 < nI D from nI_nlt hD4 (by decide)))) (fun c_7 => ?_)
  refine x_iload_n dX8_month_10 rfl ?_
  refine x_iconst (v := -1) dX8_month_11 (by decide) ?_
  refine x_icmp_lt (tgt := 20) dX8_month_12 (by decide) (fun c_12 => (absurd c_12 hj0)) (fun c_12 => ?_)
  refine x_iload_n dX8_month_15 rfl ?_
  refine x_iconst (v := 4) dX8_month_16 (by decide) ?_
  refine x_icmp_lt (tgt := 23) dX8_month_17 (by decide) (fun c_17 => ?_) (fun c_17 => (absurd (show nI j < nI 4 from nI_lt hj4 (by decide)) c_17))
  refine x_aload_n dX8_month_23 rfl ?_
  refine s_getr (ci := 8) (k := 1) (N := 10) (C := RX8) (T := TX8) dX8_month_24 lfX8_19 inX8 rfl (by decide) (rfl) rfl ?_
  refine s_getiN (ci := 3) (k := 5) (N := 8) (C := RX3) (T := TX3) dX8_month_27 lfX8_187 inX3 rfl (by decide) (rfl) rfl ?_
  refine x_if_eq (tgt := 38) dX8_month_30 (by decide) (fun c_30 => ?_) (fun c_30 => ?_)
  · refine x_iconst (v := -1) dX8_month_38 (by decide) ?_
    exact s_iret dX8_month_39 rfl (⟨rfl, rfl⟩)
  · refine x_iload_n dX8_month_33 rfl ?_
    refine x_iload_n dX8_month_34 rfl ?_
    refine x_icmp_lt (tgt := 40) dX8_month_35 (by decide) (fun c_35 => (absurd c_35 (nI_nlt hj (by omega)))) (fun c_35 => ?_)
    refine x_iconst (v := -1) dX8_month_38 (by decide) ?_
    exact s_iret dX8_month_39 rfl (⟨rfl, rfl⟩)
/-- the rows of D days: the most, and the row -/
def mrF (p : PL) (o : MO) (D : Nat) (b : FN) : Int32 × FN := exF p D D o (fun _ => 0) (-1, b)
theorem exF_row0 (p : PL) (D : Nat) (o : MO) (row : FN) (st : Int32 × FN) : exF p D D o row st = exF p D D o (fun _ => 0) st := exF_row D o row _ st (Nat.le_refl D) (by rw [Nat.sub_self]; exact tr_ext (fun k hk => absurd hk (Nat.not_lt_zero k)))
set_option maxRecDepth 100000 in
theorem k_month_m (σ : Sg) {n D : Nat} (hn : σ 3 5 = nI n) (hn8 : n ≤ 8) (hn1 : 1 ≤ n) (hD1 : 1 ≤ D) (hD4 : D ≤ 4) : Cm 12 YX8_month [.ref 0, .int (nI D), .int (-1)] σ (fun v σ' => v = some (.int (mrF (plC n σ) (moC n σ 15) D (tr D (σ 65))).1) ∧ frQ σ σ') := by
  refine Cm_of (by decide +kernel) (Nat.le_of_ble_eq_true rfl) ?_
  have h0 : ¬ σ 3 5 = 0 := by rw [hn]; exact nI_ne0 hn1 (by omega)
  refine x_iload_n dX8_month_0 rfl ?_
  refine x_iconst (v := 1) dX8_month_1 (by decide) ?_
  refine x_icmp_lt (tgt := 20) dX8_month_2 (by decide) (fun c_2 => (absurd c_2 (show ¬ nI D < nI 1 from nI_nlt hD1 (by omega)))) (fun c_2 => ?_)
  refine x_iload_n dX8_month_5 rfl ?_
  refine x_iconst (v := 4) dX8_month_6 (by decide) ?_
  refine x_icmp_gt (tgt := 20) dX8_month_7 (by decide) (fun c_7 => (absurd c_7 (show ¬ nI 4 < nI D from nI_nlt hD4 (by decide)))) (fun c_7 => ?_)
  refine x_iload_n dX8_month_10 rfl ?_
  refine x_iconst (v := -1) dX8_month_11 (by decide) ?_
  refine x_icmp_lt (tgt := 20) dX8_month_12 (by decide) (fun c_12 => (absurd c_12 (by decide))) (fun c_12 => ?_)
  refine x_iload_n dX8_month_15 rfl ?_
  refine x_iconst (v := 4) dX8_month_16 (by decide) ?_
  refine x_icmp_lt (tgt := 23) dX8_month_17 (by decide) (fun c_17 => ?_) (fun c_17 => (absurd (by decide) c_17))
  refine x_aload_n dX8_month_23 rfl ?_
  refine s_getr (ci := 8) (k := 1) (N := 10) (C := RX8) (T := TX8) dX8_month_24 lfX8_19 inX8 rfl (by decide) (rfl) rfl ?_
  refine s_getiN (ci := 3) (k := 5) (N := 8) (C := RX3) (T := TX3) dX8_month_27 lfX8_187 inX3 rfl (by decide) (rfl) rfl ?_
  refine x_if_eq (tgt := 38) dX8_month_30 (by decide) (fun c_30 => (absurd c_30 h0)) (fun c_30 => ?_)
  refine x_iload_n dX8_month_33 rfl ?_
  refine x_iload_n dX8_month_34 rfl ?_
  refine x_icmp_lt (tgt := 40) dX8_month_35 (by decide) (fun c_35 => ?_) (fun c_35 => (absurd (show (-1 : Int32) < nI D from Int32.lt_of_lt_of_le (by decide) (nI_pos' (n := D) (by omega))) c_35))
  refine x_aload_n dX8_month_40 rfl ?_
  refine s_getr (ci := 8) (k := 9) (N := 10) (C := RX8) (T := TX8) dX8_month_41 lfX8_67 inX8 rfl (by decide) (rfl) rfl ?_
  refine x_aload_n dX8_month_44 rfl ?_
  refine s_getr (ci := 8) (k := 1) (N := 10) (C := RX8) (T := TX8) dX8_month_45 lfX8_19 inX8 rfl (by decide) (rfl) rfl ?_
  refine x_aload_n dX8_month_48 rfl ?_
  refine s_getr (ci := 8) (k := 3) (N := 10) (C := RX8) (T := TX8) dX8_month_49 lfX8_29 inX8 rfl (by decide) (rfl) rfl ?_
  refine x_iload_n dX8_month_52 rfl ?_
  refine s_callV dX8_month_53 (k_find σ hn hn8 hD4) rfl w_X4_find lmX8_204 im_X4_find se_X4_find rfl (rfl) rfl (Nat.le_of_ble_eq_true rfl) rfl (by decide) (fun v_53 σ_53 h_53 => ?_)
  obtain ⟨rfl, g1, g2, g3⟩ := h_53
  rw [exF_row0] at g1 g2
  refine x_iload_n dX8_month_56 rfl ?_
  refine x_iconst (v := -1) dX8_month_57 (by decide) ?_
  refine x_icmp_ne (tgt := 71) dX8_month_58 (by decide) (fun c_58 => (absurd rfl c_58)) (fun c_58 => ?_)
  refine x_aload_n dX8_month_61 rfl ?_
  refine s_getr (ci := 8) (k := 9) (N := 10) (C := RX8) (T := TX8) dX8_month_62 lfX8_67 inX8 rfl (by decide) (rfl) rfl ?_
  refine s_getiN (ci := 4) (k := 4) (N := 5) (C := RX4) (T := TX4) dX8_month_65 lfX8_208 inX4 rfl (by decide) (rfl) rfl ?_
  refine x_goto (tgt := 80) dX8_month_68 (by decide) ?_
  exact s_iret dX8_month_80 rfl (⟨by rw [g1]; rfl, fun c hc => g3 c (by omega) (by omega) (by omega) (by omega)⟩)
set_option maxRecDepth 100000 in
theorem k_month_k (σ : Sg) {n D j : Nat} (hn : σ 3 5 = nI n) (hn8 : n ≤ 8) (hn1 : 1 ≤ n) (hD1 : 1 ≤ D) (hD4 : D ≤ 4) (hj : j < D) : Cm 12 YX8_month [.ref 0, .int (nI D), .int (nI j)] σ (fun v σ' => v = some (.int ((mrF (plC n σ) (moC n σ 15) D (tr D (σ 65))).2 j)) ∧ frQ σ σ') := by
  refine Cm_of (by decide +kernel) (Nat.le_of_ble_eq_true rfl) ?_
  have h0 : ¬ σ 3 5 = 0 := by rw [hn]; exact nI_ne0 hn1 (by omega)
  have hj4 : j < 4 := by omega
  have hj0 : ¬ nI j < -1 := fun z => nI_pos (n := j) (by omega) (Int32.lt_trans z (by decide))
  have hjm : ¬ nI j = -1 := fun z => by have := nI_pos' (n := j) (by omega); rw [z] at this; exact absurd this (by decide)
  refine x_iload_n dX8_month_0 rfl ?_
  refine x_iconst (v := 1) dX8_month_1 (by decide) ?_
  refine x_icmp_lt (tgt := 20) dX8_month_2 (by decide) (fun c_2 => (absurd c_2 (show ¬ nI D < nI 1 from nI_nlt hD1 (by omega)))) (fun c_2 => ?_)
  refine x_iload_n dX8_month_5 rfl ?_
  refine x_iconst (v := 4) dX8_month_6 (by decide) ?_
  refine x_icmp_gt (tgt := 20) dX8_month_7 (by decide) (fun c_7 => (absurd c_7 (show ¬ nI 4 < nI D from nI_nlt hD4 (by decide)))) (fun c_7 => ?_)
  refine x_iload_n dX8_month_10 rfl ?_
  refine x_iconst (v := -1) dX8_month_11 (by decide) ?_
  refine x_icmp_lt (tgt := 20) dX8_month_12 (by decide) (fun c_12 => (absurd c_12 hj0)) (fun c_12 => ?_)
  refine x_iload_n dX8_month_15 rfl ?_
  refine x_iconst (v := 4) dX8_month_16 (by decide) ?_
  refine x_icmp_lt (tgt := 23) dX8_month_17 (by decide) (fun c_17 => ?_) (fun c_17 => (absurd (show nI j < nI 4 from nI_lt hj4 (by decide)) c_17))
  refine x_aload_n dX8_month_23 rfl ?_
  refine s_getr (ci := 8) (k := 1) (N := 10) (C := RX8) (T := TX8) dX8_month_24 lfX8_19 inX8 rfl (by decide) (rfl) rfl ?_
  refine s_getiN (ci := 3) (k := 5) (N := 8) (C := RX3) (T := TX3) dX8_month_27 lfX8_187 inX3 rfl (by decide) (rfl) rfl ?_
  refine x_if_eq (tgt := 38) dX8_month_30 (by decide) (fun c_30 => (absurd c_30 h0)) (fun c_30 => ?_)
  refine x_iload_n dX8_month_33 rfl ?_
  refine x_iload_n dX8_month_34 rfl ?_
  refine x_icmp_lt (tgt := 40) dX8_month_35 (by decide) (fun c_35 => ?_) (fun c_35 => (absurd (nI_lt hj (by omega)) c_35))
  refine x_aload_n dX8_month_40 rfl ?_
  refine s_getr (ci := 8) (k := 9) (N := 10) (C := RX8) (T := TX8) dX8_month_41 lfX8_67 inX8 rfl (by decide) (rfl) rfl ?_
  refine x_aload_n dX8_month_44 rfl ?_
  refine s_getr (ci := 8) (k := 1) (N := 10) (C := RX8) (T := TX8) dX8_month_45 lfX8_19 inX8 rfl (by decide) (rfl) rfl ?_
  refine x_aload_n dX8_month_48 rfl ?_
  refine s_getr (ci := 8) (k := 3) (N := 10) (C := RX8) (T := TX8) dX8_month_49 lfX8_29 inX8 rfl (by decide) (rfl) rfl ?_
  refine x_iload_n dX8_month_52 rfl ?_
  refine s_callV dX8_month_53 (k_find σ hn hn8 hD4) rfl w_X4_find lmX8_204 im_X4_find se_X4_find rfl (rfl) rfl (Nat.le_of_ble_eq_true rfl) rfl (by decide) (fun v_53 σ_53 h_53 => ?_)
  obtain ⟨rfl, g1, g2, g3⟩ := h_53
  rw [exF_row0] at g1 g2
  refine x_iload_n dX8_month_56 rfl ?_
  refine x_iconst (v := -1) dX8_month_57 (by decide) ?_
  refine x_icmp_ne (tgt := 71) dX8_month_58 (by decide) (fun c_58 => ?_) (fun c_58 => (absurd c_58 hjm))
  refine x_aload_n dX8_month_71 rfl ?_
  refine s_getr (ci := 8) (k := 9) (N := 10) (C := RX8) (T := TX8) dX8_month_72 lfX8_67 inX8 rfl (by decide) (rfl) rfl ?_
  refine s_getrN (ci := 4) (k := 2) (N := 5) (C := RX4) (T := TX4) dX8_month_75 lfX8_211 inX4 rfl (by decide) (rfl) rfl ?_
  refine x_iload_n dX8_month_78 rfl ?_
  refine s_iald dX8_month_79 (rfl) (hi := rfl) (hj := by omega) (hn := by decide) ?_
  exact s_iret dX8_month_80 rfl (⟨by rw [← tr_i (n := D) (f := σ_53 65) hj, g2]; rfl, fun c hc => g3 c (by omega) (by omega) (by omega) (by omega)⟩)
/-- all weights together -/
def tsF (q n : Nat) : Nat → Nat
  | 0 => 0
  | h + 1 => tsF q n h + wtF q h n
theorem suF_le (p : PL) (o : MO) (s : Int32) (q : Nat) : ∀ N, suF p o s q N ≤ tsF q p.1 N := by
  intro N
  induction N with
  | zero => exact Nat.le_refl _
  | succ N ih =>
    rw [suF_s]
    unfold tsF
    split <;> omega
theorem wt_hi {q n i : Nat} : ∀ k, k ≤ n → wtF q (2 ^ n + i) k = wtF q i k := by
  intro k
  induction k with
  | zero => intro _; rfl
  | succ k ih =>
    intro hk
    rw [wtF_s, wtF_s, ih (by omega), Nat.testBit_two_pow_add_gt (by omega)]
theorem ts_lo {q n : Nat} : ∀ N, N ≤ 2 ^ n → tsF q (n + 1) N = tsF q n N * (10 - q) := by
  intro N
  induction N with
  | zero => intro _; simp [tsF]
  | succ N ih =>
    intro hN
    show tsF q (n + 1) N + wtF q N (n + 1) = (tsF q n N + wtF q N n) * (10 - q)
    rw [ih (by omega), wtF_s, if_neg (by rw [Nat.testBit_lt_two_pow (by omega)]; decide), Nat.add_mul]
theorem ts_hi {q n : Nat} : ∀ N, N ≤ 2 ^ n → tsF q (n + 1) (2 ^ n + N) = tsF q (n + 1) (2 ^ n) + tsF q n N * q := by
  intro N
  induction N with
  | zero => intro _; simp [tsF]
  | succ N ih =>
    intro hN
    show tsF q (n + 1) (2 ^ n + N) + wtF q (2 ^ n + N) (n + 1) = tsF q (n + 1) (2 ^ n) + (tsF q n N + wtF q N n) * q
    rw [ih (by omega), wtF_s, if_pos (by rw [Nat.testBit_two_pow_add_eq, Nat.testBit_lt_two_pow (by omega)]; rfl), wt_hi n (Nat.le_refl n), Nat.add_mul]
    omega
theorem ts_all {q : Nat} (hq : q ≤ 10) : ∀ n, tsF q n (2 ^ n) = 10 ^ n := by
  intro n
  induction n with
  | zero => rfl
  | succ n ih =>
    rw [show 2 ^ (n + 1) = 2 ^ n + 2 ^ n by rw [Nat.pow_succ]; omega, ts_hi (2 ^ n) (Nat.le_refl _), ts_lo (2 ^ n) (Nat.le_refl _), ih, ← Nat.mul_add, show 10 - q + q = 10 by omega, Nat.pow_succ]
theorem wt_00 : ∀ k, wtF 0 0 k = 10 ^ k := by
  intro k
  induction k with
  | zero => rfl
  | succ k ih => rw [wtF_s, ih, if_neg (by rw [Nat.zero_testBit]; decide), Nat.pow_succ]
theorem su_bd {p : PL} {o : MO} {s : Int32} {q : Nat} (hq : q ≤ 10) (hn : p.1 ≤ 8) : suF p o s q (2 ^ p.1) ≤ 10 ^ p.1 ∧ 10 ^ p.1 ≤ 100000000 := by
  refine ⟨?_, Nat.pow_le_pow_right (n := 10) (by decide) hn⟩
  rw [← ts_all hq p.1]
  exact suF_le p o s q _
theorem lcmp_p {c : Nat} (h : 0 < c) (hc : c < 2 ^ 31) : lg_cmp (lN c) 0 = 1 := if_pos (show lN c > 0 from (pk_lLT (a := 0) (b := c) (by omega) (by omega)).mpr h)
/-- the odds, above and below, in lowest terms -/
def odF (p : PL) (o : MO) (s : Int32) (q t : Nat) : Int32 := nI ((if t = 0 then suF p o s q (2 ^ p.1) else 10 ^ p.1) / Nat.gcd (10 ^ p.1) (suF p o s q (2 ^ p.1)))
set_option maxRecDepth 100000 in
theorem k_chance_o (σ : Sg) {n : Nat} (hn : σ 3 5 = nI n) (hn8 : n ≤ 8) (s : Int32) (hs : inq n s) (q t : Int32) (h : rgF 0 10 q = false ∨ rgF 0 1 t = false) : Cm 12 YX8_chance [.ref 0, .int s, .int q, .int t] σ (fun v σ' => v = some (.int (-3)) ∧ σ' = σ) := by
  refine Cm_of (by decide +kernel) (Nat.le_of_ble_eq_true rfl) ?_
  have ok : ∀ {z : Prop}, ¬ q < 0 → ¬ 10 < q → ¬ t < 0 → t ≤ 1 → z := fun h1 h2 h3 h4 => by
    rcases h with h | h
    · rcases rgF_no h with q | q
      · exact absurd q h1
      · exact absurd q h2
    · rcases rgF_no h with q | q
      · exact absurd q h3
      · exact absurd q (Int32.not_lt.mpr h4)
  have hb : ¬ s = -1 → inb n s = true := fun h1 => by rcases hs with q | ⟨k, hk, rfl⟩; exact absurd q h1; exact inb_nI hk (by omega)
  refine x_iload_n dX8_chance_0 rfl ?_
  refine x_iconst (v := -1) dX8_chance_1 (by decide) ?_
  refine x_icmp_eq (tgt := 19) dX8_chance_2 (by decide) (fun c_2 => ?_) (fun c_2 => ?_)
  · refine x_iload_n dX8_chance_19 rfl ?_
    refine x_if_lt (tgt := 38) dX8_chance_20 (by decide) (fun c_20 => ?_) (fun c_20 => ?_)
    · refine x_bipush (v := -3) dX8_chance_38 (by decide) ?_
      exact s_iret dX8_chance_40 rfl (⟨rfl, rfl⟩)
    · refine x_iload_n dX8_chance_23 rfl ?_
      refine x_bipush (v := 10) dX8_chance_24 (by decide) ?_
      refine x_icmp_gt (tgt := 38) dX8_chance_26 (by decide) (fun c_26 => ?_) (fun c_26 => ?_)
      · refine x_bipush (v := -3) dX8_chance_38 (by decide) ?_
        exact s_iret dX8_chance_40 rfl (⟨rfl, rfl⟩)
      · refine x_iload_n dX8_chance_29 rfl ?_
        refine x_if_lt (tgt := 38) dX8_chance_30 (by decide) (fun c_30 => ?_) (fun c_30 => ?_)
        · refine x_bipush (v := -3) dX8_chance_38 (by decide) ?_
          exact s_iret dX8_chance_40 rfl (⟨rfl, rfl⟩)
        · refine x_iload_n dX8_chance_33 rfl ?_
          refine x_iconst (v := 1) dX8_chance_34 (by decide) ?_
          refine x_icmp_le (tgt := 41) dX8_chance_35 (by decide) (fun c_35 => (ok c_20 c_26 c_30 c_35)) (fun c_35 => ?_)
          refine x_bipush (v := -3) dX8_chance_38 (by decide) ?_
          exact s_iret dX8_chance_40 rfl (⟨rfl, rfl⟩)
  · refine x_aload_n dX8_chance_5 rfl ?_
    refine s_getr (ci := 8) (k := 1) (N := 10) (C := RX8) (T := TX8) dX8_chance_6 lfX8_19 inX8 rfl (by decide) (rfl) rfl ?_
    refine x_iload_n dX8_chance_9 rfl ?_
    refine s_callV dX8_chance_10 (k_has σ pl_3 hn hn8 s) rfl w_X3_has lmX8_100 im_X3_has se_X3_has rfl (rfl) rfl (Nat.le_of_ble_eq_true rfl) rfl (by decide) (fun v_10 σ_10 h_10 => ?_)
    obtain ⟨rfl, z_10⟩ := h_10
    have z_10 := z_10.symm
    subst z_10
    refine x_if_ne (tgt := 19) dX8_chance_13 (by decide) (fun c_13 => ?_) (fun c_13 => (absurd c_13 (by rw [hb c_2]; decide)))
    refine x_iload_n dX8_chance_19 rfl ?_
    refine x_if_lt (tgt := 38) dX8_chance_20 (by decide) (fun c_20 => ?_) (fun c_20 => ?_)
    · refine x_bipush (v := -3) dX8_chance_38 (by decide) ?_
      exact s_iret dX8_chance_40 rfl (⟨rfl, rfl⟩)
    · refine x_iload_n dX8_chance_23 rfl ?_
      refine x_bipush (v := 10) dX8_chance_24 (by decide) ?_
      refine x_icmp_gt (tgt := 38) dX8_chance_26 (by decide) (fun c_26 => ?_) (fun c_26 => ?_)
      · refine x_bipush (v := -3) dX8_chance_38 (by decide) ?_
        exact s_iret dX8_chance_40 rfl (⟨rfl, rfl⟩)
      · refine x_iload_n dX8_chance_29 rfl ?_
        refine x_if_lt (tgt := 38) dX8_chance_30 (by decide) (fun c_30 => ?_) (fun c_30 => ?_)
        · refine x_bipush (v := -3) dX8_chance_38 (by decide) ?_
          exact s_iret dX8_chance_40 rfl (⟨rfl, rfl⟩)
        · refine x_iload_n dX8_chance_33 rfl ?_
          refine x_iconst (v := 1) dX8_chance_34 (by decide) ?_
          refine x_icmp_le (tgt := 41) dX8_chance_35 (by decide) (fun c_35 => (ok c_20 c_26 c_30 c_35)) (fun c_35 => ?_)
          refine x_bipush (v := -3) dX8_chance_38 (by decide) ?_
          exact s_iret dX8_chance_40 rfl (⟨rfl, rfl⟩)
set_option maxRecDepth 100000 in
theorem k_chance (σ : Sg) {n q t : Nat} (hn : σ 3 5 = nI n) (hn8 : n ≤ 8) (s : Int32) (hs : inq n s) (hq : q ≤ 10) (ht : t ≤ 1) : Cm 12 YX8_chance [.ref 0, .int s, .int (nI q), .int (nI t)] σ (fun v σ' => v = some (.int (odF (plC n σ) (moC n σ 15) s q t)) ∧ frQ σ σ') := by
  refine Cm_of (by decide +kernel) (Nat.le_of_ble_eq_true rfl) ?_
  have hb : ¬ s = -1 → inb n s = true := fun h1 => by rcases hs with q | ⟨k, hk, rfl⟩; exact absurd q h1; exact inb_nI hk (by omega)
  obtain ⟨b1, b2⟩ := su_bd (p := plC n σ) (o := moC n σ 15) (s := s) hq hn8
  have b3 : 10 ^ (plC n σ).1 = 10 ^ n := rfl
  have b0 : 0 < 10 ^ n := Nat.pow_pos (by decide)
  have hg : 0 < Nat.gcd (10 ^ n) (suF (plC n σ) (moC n σ 15) s q (2 ^ n)) := Nat.gcd_pos_of_pos_left _ b0
  have hg2 : Nat.gcd (10 ^ n) (suF (plC n σ) (moC n σ 15) s q (2 ^ n)) ≤ 10 ^ n := Nat.gcd_le_left _ b0
  rw [b3] at b1 b2
  have b1' : suF (plC n σ) (moC n σ 15) s q (2 ^ n) ≤ 10 ^ n := b1
  generalize hA : suF (plC n σ) (moC n σ 15) s q (2 ^ n) = A at hg hg2 b1'
  have hod : ∀ t, odF (plC n σ) (moC n σ 15) s q t = nI ((if t = 0 then A else 10 ^ n) / Nat.gcd (10 ^ n) A) := fun t => by rw [← hA]; rfl
  have tail : Ex (YX8_chance, 12, xB0, none) 19 [.ref 0, .int s, .int (nI q), .int (nI t), .null, .null, .null, .null, .null, .null] [] (xMs σ) (xQ (fun v σ' => v = some (.int (odF (plC n σ) (moC n σ 15) s q t)) ∧ frQ σ σ')) := by
    rw [hod]
    have ht2 : t = 0 ∨ t = 1 := by omega
    rcases ht2 with rfl | rfl

    · skip
      refine x_iload_n dX8_chance_19 rfl ?_
      refine x_if_lt (tgt := 38) dX8_chance_20 (by decide) (fun c_20 => (absurd c_20 (nI_pos (by omega)))) (fun c_20 => ?_)
      refine x_iload_n dX8_chance_23 rfl ?_
      refine x_bipush (v := 10) dX8_chance_24 (by decide) ?_
      refine x_icmp_gt (tgt := 38) dX8_chance_26 (by decide) (fun c_26 => (absurd c_26 (show ¬ nI 10 < nI q from nI_nlt hq (by decide)))) (fun c_26 => ?_)
      refine x_iload_n dX8_chance_29 rfl ?_
      refine x_if_lt (tgt := 38) dX8_chance_30 (by decide) (fun c_30 => (absurd c_30 (by decide))) (fun c_30 => ?_)
      refine x_iload_n dX8_chance_33 rfl ?_
      refine x_iconst (v := 1) dX8_chance_34 (by decide) ?_
      refine x_icmp_le (tgt := 41) dX8_chance_35 (by decide) (fun c_35 => ?_) (fun c_35 => (absurd (by decide) c_35))
      refine x_aload_n dX8_chance_41 rfl ?_
      refine x_iload_n dX8_chance_42 rfl ?_
      refine x_iload_n dX8_chance_43 rfl ?_
      refine s_callV dX8_chance_44 (k_weightOfCarried σ s hn hn8 hq) rfl w_X8_weightOfCarried lmX8_220 im_X8_weightOfCarried se_X8_weightOfCarried rfl (rfl) rfl (Nat.le_of_ble_eq_true rfl) rfl (by decide) (fun v_44 σ_44 h_44 => ?_)
      obtain ⟨rfl, g1⟩ := h_44
      rw [hA]
      refine x_lstore dX8_chance_47 (Nat.le_of_ble_eq_true rfl) rfl ?_
      refine x_aload_n dX8_chance_49 rfl ?_
      refine x_iconst (v := 0) dX8_chance_50 (by decide) ?_
      refine x_iconst (v := 0) dX8_chance_51 (by decide) ?_
      refine s_callV dX8_chance_52 (k_weightOf σ_44 (h := 0) (q := 0) (n := n) (by rw [g1 3 (by decide) (by decide) (by decide)]; exact hn) hn8 (by decide) (by decide)) rfl w_X8_weightOf lmX8_224 im_X8_weightOf se_X8_weightOf rfl (rfl) rfl (Nat.le_of_ble_eq_true rfl) rfl (by decide) (fun v_52 σ_52 h_52 => ?_)
      obtain ⟨rfl, z_52⟩ := h_52
      have z_52 := z_52.symm
      subst z_52
      rw [wt_00]
      refine x_lstore dX8_chance_55 (Nat.le_of_ble_eq_true rfl) rfl ?_
      refine x_lload dX8_chance_57 rfl ?_
      refine x_lload dX8_chance_59 rfl ?_
      refine s_callS dX8_chance_61 (k_commonDivisor σ_44 (a := A) (b := 10 ^ n) (by omega) (by omega)) rfl w_X8_commonDivisor lmX8_227 st_X8_commonDivisor rfl (Nat.le_of_ble_eq_true rfl) rfl (by decide) (fun v_61 σ_61 h_61 => ?_)
      obtain ⟨rfl, z_61⟩ := h_61
      have z_61 := z_61.symm
      subst z_61
      refine x_lstore dX8_chance_64 (Nat.le_of_ble_eq_true rfl) rfl ?_
      refine x_lload dX8_chance_66 rfl ?_
      refine x_lconst (v := 0) dX8_chance_68 (by decide) ?_
      refine x_lcmp dX8_chance_69 ?_
      refine x_if_gt (tgt := 76) dX8_chance_70 (by decide) (fun c_70 => ?_) (fun c_70 => (absurd (by rw [lcmp_p hg (by omega)]; decide) c_70))
      refine x_iload_n dX8_chance_76 rfl ?_
      refine x_if_ne (tgt := 85) dX8_chance_77 (by decide) (fun c_77 => (absurd (by decide) c_77)) (fun c_77 => ?_)
      refine x_lload dX8_chance_80 rfl ?_
      refine x_goto (tgt := 87) dX8_chance_82 (by decide) ?_
      refine x_lload dX8_chance_87 rfl ?_
      refine x_ldiv dX8_chance_89 (fun z => absurd ((pk_lEQ (b := 0) (by omega) (by omega)).mp z) (by omega)) ?_
      refine x_l2i dX8_chance_90 ?_
      refine s_iret dX8_chance_91 rfl ?_
      rw [pk_lDiv (by omega) hg (by omega), lN_i]
      exact ⟨rfl, fun c hc => g1 c (by omega) (by omega) (by omega)⟩
    · skip
      refine x_iload_n dX8_chance_19 rfl ?_
      refine x_if_lt (tgt := 38) dX8_chance_20 (by decide) (fun c_20 => (absurd c_20 (nI_pos (by omega)))) (fun c_20 => ?_)
      refine x_iload_n dX8_chance_23 rfl ?_
      refine x_bipush (v := 10) dX8_chance_24 (by decide) ?_
      refine x_icmp_gt (tgt := 38) dX8_chance_26 (by decide) (fun c_26 => (absurd c_26 (show ¬ nI 10 < nI q from nI_nlt hq (by decide)))) (fun c_26 => ?_)
      refine x_iload_n dX8_chance_29 rfl ?_
      refine x_if_lt (tgt := 38) dX8_chance_30 (by decide) (fun c_30 => (absurd c_30 (by decide))) (fun c_30 => ?_)
      refine x_iload_n dX8_chance_33 rfl ?_
      refine x_iconst (v := 1) dX8_chance_34 (by decide) ?_
      refine x_icmp_le (tgt := 41) dX8_chance_35 (by decide) (fun c_35 => ?_) (fun c_35 => (absurd (by decide) c_35))
      refine x_aload_n dX8_chance_41 rfl ?_
      refine x_iload_n dX8_chance_42 rfl ?_
      refine x_iload_n dX8_chance_43 rfl ?_
      refine s_callV dX8_chance_44 (k_weightOfCarried σ s hn hn8 hq) rfl w_X8_weightOfCarried lmX8_220 im_X8_weightOfCarried se_X8_weightOfCarried rfl (rfl) rfl (Nat.le_of_ble_eq_true rfl) rfl (by decide) (fun v_44 σ_44 h_44 => ?_)
      obtain ⟨rfl, g1⟩ := h_44
      rw [hA]
      refine x_lstore dX8_chance_47 (Nat.le_of_ble_eq_true rfl) rfl ?_
      refine x_aload_n dX8_chance_49 rfl ?_
      refine x_iconst (v := 0) dX8_chance_50 (by decide) ?_
      refine x_iconst (v := 0) dX8_chance_51 (by decide) ?_
      refine s_callV dX8_chance_52 (k_weightOf σ_44 (h := 0) (q := 0) (n := n) (by rw [g1 3 (by decide) (by decide) (by decide)]; exact hn) hn8 (by decide) (by decide)) rfl w_X8_weightOf lmX8_224 im_X8_weightOf se_X8_weightOf rfl (rfl) rfl (Nat.le_of_ble_eq_true rfl) rfl (by decide) (fun v_52 σ_52 h_52 => ?_)
      obtain ⟨rfl, z_52⟩ := h_52
      have z_52 := z_52.symm
      subst z_52
      rw [wt_00]
      refine x_lstore dX8_chance_55 (Nat.le_of_ble_eq_true rfl) rfl ?_
      refine x_lload dX8_chance_57 rfl ?_
      refine x_lload dX8_chance_59 rfl ?_
      refine s_callS dX8_chance_61 (k_commonDivisor σ_44 (a := A) (b := 10 ^ n) (by omega) (by omega)) rfl w_X8_commonDivisor lmX8_227 st_X8_commonDivisor rfl (Nat.le_of_ble_eq_true rfl) rfl (by decide) (fun v_61 σ_61 h_61 => ?_)
      obtain ⟨rfl, z_61⟩ := h_61
      have z_61 := z_61.symm
      subst z_61
      refine x_lstore dX8_chance_64 (Nat.le_of_ble_eq_true rfl) rfl ?_
      refine x_lload dX8_chance_66 rfl ?_
      refine x_lconst (v := 0) dX8_chance_68 (by decide) ?_
      refine x_lcmp dX8_chance_69 ?_
      refine x_if_gt (tgt := 76) dX8_chance_70 (by decide) (fun c_70 => ?_) (fun c_70 => (absurd (by rw [lcmp_p hg (by omega)]; decide) c_70))
      refine x_iload_n dX8_chance_76 rfl ?_
      refine x_if_ne (tgt := 85) dX8_chance_77 (by decide) (fun c_77 => ?_) (fun c_77 => (absurd c_77 (by decide)))
      refine x_lload dX8_chance_85 rfl ?_
      refine x_lload dX8_chance_87 rfl ?_
      refine x_ldiv dX8_chance_89 (fun z => absurd ((pk_lEQ (b := 0) (by omega) (by omega)).mp z) (by omega)) ?_
      refine x_l2i dX8_chance_90 ?_
      refine s_iret dX8_chance_91 rfl ?_
      rw [pk_lDiv (by omega) hg (by omega), lN_i]
      exact ⟨rfl, fun c hc => g1 c (by omega) (by omega) (by omega)⟩
  refine x_iload_n dX8_chance_0 rfl ?_
  refine x_iconst (v := -1) dX8_chance_1 (by decide) ?_
  refine x_icmp_eq (tgt := 19) dX8_chance_2 (by decide) (fun c_2 => ?_) (fun c_2 => ?_)
  · exact tail
  · refine x_aload_n dX8_chance_5 rfl ?_
    refine s_getr (ci := 8) (k := 1) (N := 10) (C := RX8) (T := TX8) dX8_chance_6 lfX8_19 inX8 rfl (by decide) (rfl) rfl ?_
    refine x_iload_n dX8_chance_9 rfl ?_
    refine s_callV dX8_chance_10 (k_has σ pl_3 hn hn8 s) rfl w_X3_has lmX8_100 im_X3_has se_X3_has rfl (rfl) rfl (Nat.le_of_ble_eq_true rfl) rfl (by decide) (fun v_10 σ_10 h_10 => ?_)
    obtain ⟨rfl, z_10⟩ := h_10
    have z_10 := z_10.symm
    subst z_10
    refine x_if_ne (tgt := 19) dX8_chance_13 (by decide) (fun c_13 => ?_) (fun c_13 => (absurd c_13 (by rw [hb c_2]; decide)))
    exact tail
