/-! ===== read, fault, town ===== -/
/-- the text read: where its fault is, or how many clauses and the plan then -/
def rdF (len : Nat) (c : Nat → Nat) : Nat → Nat → PL → Nat → Nat ⊕ (Nat × PL)
  | 0, _, _, s => .inl s
  | f + 1, j, p, s => match clsF len c p s with
    | .inl x => .inl x
    | .inr q => if ¬ q.2 < len then .inr (j + 1, q.1) else if ¬ c q.2 = 59 ∨ 14 ≤ j + 1 then .inl q.2 else rdF len c f (j + 1) q.1 (nxF len c q.2)
def rdA (len : Nat) (c : Nat → Nat) (p : PL) : Nat ⊕ (Nat × PL) := rdF len c 14 0 p (tkS len c 0)
def RDP (len : Nat) (σ σ' : Sg) (v : Option Value) (r : Nat ⊕ (Nat × PL)) : Prop := (match r with
  | .inl f => v = some (.int (nI f)) ∧ f ≤ len
  | .inr q => v = some (.int (-1)) ∧ σ' 1 4 = nI q.1 ∧ σ' 9 5 = nI q.2.1 ∧ q.2.1 ≤ 8 ∧ plP q.2.1 σ' 9 = q.2 ∧ 1 ≤ q.1 ∧ q.1 ≤ 14) ∧ FR σ σ' ∧ σ' 1 1 = σ 1 1
theorem FR.tr {σ0 σ1 σ2 : Sg} (h1 : FR σ0 σ1) (h2 : FR σ1 σ2) : FR σ0 σ2 := fun c a b => by rw [h2 c a b]; exact h1 c a b
theorem RS.rb {len : Nat} {c : Nat → Nat} {σ0 σ : Sg} {s : Nat} {p : PL} (h : RS len c σ0 σ s p) : RS len c σ σ s p := ⟨h.1, h.2.1, h.2.2.1, h.2.2.2.1, h.2.2.2.2.1, h.2.2.2.2.2.1, h.2.2.2.2.2.2.1, rfl, fun _ _ _ => rfl⟩
theorem RS.cls {len : Nat} {c : Nat → Nat} {σ0 σ : Sg} {s : Nat} {p : PL} (h : RS len c σ0 σ s p) (x : Int32) : RS len c (sg σ 1 4 x) (sg σ 1 4 x) s p := by
  obtain ⟨h1, h2, h3, h4, h5, h6, h7, h8, h9⟩ := h
  exact ⟨TX_sg h1 (by decide), h2, by rw [sg_k _ _ _ (by decide)]; exact h3, by rw [sg_k _ _ _ (by decide)]; exact h4, by rw [sg_n _ _ _ (by decide)]; exact h5, h6, h7, rfl, fun _ _ _ => rfl⟩
set_option maxRecDepth 100000 in
set_option maxHeartbeats 1000000 in
theorem l_read {len : Nat} {c : Nat → Nat} (σ : Sg) : ∀ (f j : Nat) (τ : Sg) (s : Nat) (p : PL), j + f = 14 → RS len c τ τ s p → τ 1 4 = nI j → FR σ τ → τ 1 1 = σ 1 1 → Ex (YX7_read, 7, xB0, none) 21 [.ref 1, .ref 3, .ref 9, .int (nI j)] [] (xMs τ) (xQ (fun v σ' => RDP len σ σ' v (rdF len c f j p s))) := by
  intro f
  induction f with
  | zero =>
    intro j τ s p hj h hc hf hl
    obtain rfl : j = 14 := by omega
    refine x_iload_n dX7_read_21 rfl ?_
    refine x_bipush (v := 14) dX7_read_22 (by decide) ?_
    refine x_icmp_ge (tgt := 101) dX7_read_24 (by decide) (fun c_24 => ?_) (fun c_24 => (absurd (by decide) c_24))
    refine x_aload_n dX7_read_101 rfl ?_
    refine s_geti (ci := 7) (k := 2) (N := 5) (C := RX7) (T := TX7) dX7_read_102 lfX7_19 inX7 rfl (by decide) (rfl) rfl ?_
    exact s_iret dX7_read_105 rfl (by rw [h.2.2.1]; exact ⟨⟨rfl, h.2.1⟩, hf, hl⟩)
  | succ f ih =>
    intro j τ s p hj h hc hf hl
    have hlen := h.1.2.1
    unfold rdF
    have hrc := k_readClause τ τ h
    generalize clsF len c p s = r at hrc ⊢
    cases r with
    | inl x =>
      refine x_iload_n dX7_read_21 rfl ?_
      refine x_bipush (v := 14) dX7_read_22 (by decide) ?_
      refine x_icmp_ge (tgt := 101) dX7_read_24 (by decide) (fun c_24 => (absurd c_24 (show ¬ nI 14 ≤ nI j from nI_ge (by omega) (by decide)))) (fun c_24 => ?_)
      refine x_aload_n dX7_read_27 rfl ?_
      refine x_aload_n dX7_read_28 rfl ?_
      refine s_callV dX7_read_29 (hrc) rfl w_X7_readClause lmX7_37 im_X7_readClause se_X7_readClause rfl (rfl) rfl (Nat.le_of_ble_eq_true rfl) rfl (by decide) (fun v_29 σ_29 h_29 => ?_)
      obtain ⟨rfl, g⟩ := h_29
      refine x_if_ne (tgt := 40) dX7_read_32 (by decide) (fun c_32 => (absurd rfl c_32)) (fun c_32 => ?_)
      refine x_aload_n dX7_read_35 rfl ?_
      refine s_geti (ci := 7) (k := 2) (N := 5) (C := RX7) (T := TX7) dX7_read_36 lfX7_19 inX7 rfl (by decide) (rfl) rfl ?_
      exact s_iret dX7_read_39 rfl (by rw [g.2.2.1]; exact ⟨⟨rfl, g.2.1⟩, hf.tr g.2.2.2.2, by rw [g.1.1, ← h.1.1]; exact hl⟩)
    | inr q =>
      show Ex _ 21 _ _ _ (xQ (fun v σ' => RDP len σ σ' v (if ¬ q.2 < len then .inr (j + 1, q.1) else if ¬ c q.2 = 59 ∨ 14 ≤ j + 1 then .inl q.2 else rdF len c f (j + 1) q.1 (nxF len c q.2))))
      refine x_iload_n dX7_read_21 rfl ?_
      refine x_bipush (v := 14) dX7_read_22 (by decide) ?_
      refine x_icmp_ge (tgt := 101) dX7_read_24 (by decide) (fun c_24 => (absurd c_24 (show ¬ nI 14 ≤ nI j from nI_ge (by omega) (by decide)))) (fun c_24 => ?_)
      refine x_aload_n dX7_read_27 rfl ?_
      refine x_aload_n dX7_read_28 rfl ?_
      refine s_callV dX7_read_29 (hrc) rfl w_X7_readClause lmX7_37 im_X7_readClause se_X7_readClause rfl (rfl) rfl (Nat.le_of_ble_eq_true rfl) rfl (by decide) (fun v_29 σ_29 h_29 => ?_)
      obtain ⟨rfl, g⟩ := h_29
      refine x_if_ne (tgt := 40) dX7_read_32 (by decide) (fun c_32 => ?_) (fun c_32 => (absurd c_32 (by decide)))
      refine x_aload_n dX7_read_40 rfl ?_
      refine x_dup dX7_read_41 rfl ?_
      refine s_geti (ci := 7) (k := 4) (N := 5) (C := RX7) (T := TX7) dX7_read_42 lfX7_25 inX7 rfl (by decide) (rfl) rfl ?_
      refine x_iconst (v := 1) dX7_read_45 (by decide) ?_
      refine x_iadd dX7_read_46 ?_
      refine s_puti (ci := 7) (k := 4) (N := 5) (C := RX7) (T := TX7) (ty0 := tyX7) dX7_read_47 lfX7_25 inX7 tyX7_ok nmX7 rfl (by decide) rfl rfl (rfl) rfl ?_
      refine xname (fun σ_47 e_47 => ?_)
      rw [g.2.2.2.2.2.2.2.1, hc, nI_1] at e_47
      have g1 : RS len c σ_47 σ_47 q.2 q.1 := by rw [e_47]; exact g.cls _
      have hc1 : σ_47 1 4 = nI (j + 1) := by rw [e_47, sg_s]
      have hf1 : FR σ σ_47 := fun c a b => by rw [e_47, sg_n _ _ _ a, g.2.2.2.2.2.2.2.2 c a b]; exact hf c a b
      have hl1 : σ_47 1 1 = σ 1 1 := by rw [g1.1.1, ← h.1.1]; exact hl
      have hs1 := g1.2.2.1
      have hqL : q.2 ≤ 160 := by have := g1.2.1; omega
      refine x_aload_n dX7_read_50 rfl ?_
      refine s_geti (ci := 7) (k := 2) (N := 5) (C := RX7) (T := TX7) dX7_read_51 lfX7_19 inX7 rfl (by decide) (rfl) rfl ?_
      refine x_aload_n dX7_read_54 rfl ?_
      refine s_geti (ci := 7) (k := 1) (N := 5) (C := RX7) (T := TX7) dX7_read_55 lfX7_15 inX7 rfl (by decide) (rfl) rfl ?_
      refine x_icmp_lt (tgt := 63) dX7_read_58 (by decide) (fun c_58 => ?_) (fun c_58 => ?_)
      · have hql : q.2 < len := (nI_ltI (by omega) (by omega)).mp (by rw [← hs1, ← g1.1.1]; exact c_58)
        have hch := g1.1.2.2 q.2 hql
        refine x_aload_n dX7_read_63 rfl ?_
        refine s_getr (ci := 7) (k := 0) (N := 5) (C := RX7) (T := TX7) dX7_read_64 lfX7_9 inX7 rfl (by decide) (rfl) rfl ?_
        refine x_aload_n dX7_read_67 rfl ?_
        refine s_geti (ci := 7) (k := 2) (N := 5) (C := RX7) (T := TX7) dX7_read_68 lfX7_19 inX7 rfl (by decide) (rfl) rfl ?_
        refine s_cald dX7_read_71 (rfl) (hi := hs1) (hj := by omega) (hn := by decide) ?_
        rw [hch.1]
        refine x_bipush (v := 59) dX7_read_72 (by decide) ?_
        refine x_icmp_ne (tgt := 86) dX7_read_74 (by decide) (fun c_74 => ?_) (fun c_74 => ?_)
        · refine x_aload_n dX7_read_86 rfl ?_
          refine s_geti (ci := 7) (k := 2) (N := 5) (C := RX7) (T := TX7) dX7_read_87 lfX7_19 inX7 rfl (by decide) (rfl) rfl ?_
          exact s_iret dX7_read_90 rfl (by
              rw [if_neg (fun z => z hql), hs1]
              first
                | (rw [if_pos (Or.inl (fun z => c_74 (by rw [z]; rfl)))]; exact ⟨⟨rfl, g1.2.1⟩, hf1, hl1⟩)
                | (rw [if_pos (Or.inr (show 14 ≤ j + 1 from by
                    rw [hc1] at c_83
                    rcases Nat.lt_or_ge (j + 1) 14 with z | z
                    · exact absurd (show nI (j + 1) < nI 14 from nI_lt z (by decide)) c_83
                    · exact z))]; exact ⟨⟨rfl, g1.2.1⟩, hf1, hl1⟩))
        · refine x_aload_n dX7_read_77 rfl ?_
          refine s_geti (ci := 7) (k := 4) (N := 5) (C := RX7) (T := TX7) dX7_read_78 lfX7_25 inX7 rfl (by decide) (rfl) rfl ?_
          refine x_bipush (v := 14) dX7_read_81 (by decide) ?_
          refine x_icmp_lt (tgt := 91) dX7_read_83 (by decide) (fun c_83 => ?_) (fun c_83 => ?_)
          · refine x_aload_n dX7_read_91 rfl ?_
            refine s_callV dX7_read_92 (k_stepR g1) rfl w_X7_step lmX7_34 im_X7_step se_X7_step rfl (rfl) rfl (Nat.le_of_ble_eq_true rfl) rfl (by decide) (fun v_92 σ_92 h_92 => ?_)
            obtain ⟨rfl, rfl⟩ := h_92
            refine s_iinc dX7_read_95 rfl (Nat.le_of_ble_eq_true rfl) rfl ?_
            refine x_goto (tgt := 21) dX7_read_98 (by decide) ?_
            rw [if_neg (fun z => z hql), if_neg (fun z => by
              rcases z with z | z
              · exact z ((nI_eq (a := c q.2) (b := 59) (by omega) (by decide)).mp c_74)
              · rw [hc1] at c_83
                exact absurd c_83 (show ¬ nI (j + 1) < nI 14 from nI_nlt z (by omega)))]
            exact ih (j + 1) _ _ _ (by omega) g1.mv.rb (by rw [st2_c]; exact hc1) (fun c a b => by rw [st2_n _ _ _ a]; exact hf1 c a b) (by rw [st2_l]; exact hl1)
          · refine x_aload_n dX7_read_86 rfl ?_
            refine s_geti (ci := 7) (k := 2) (N := 5) (C := RX7) (T := TX7) dX7_read_87 lfX7_19 inX7 rfl (by decide) (rfl) rfl ?_
            exact s_iret dX7_read_90 rfl (by
                rw [if_neg (fun z => z hql), hs1]
                first
                  | (rw [if_pos (Or.inl (fun z => c_74 (by rw [z]; rfl)))]; exact ⟨⟨rfl, g1.2.1⟩, hf1, hl1⟩)
                  | (rw [if_pos (Or.inr (show 14 ≤ j + 1 from by
                      rw [hc1] at c_83
                      rcases Nat.lt_or_ge (j + 1) 14 with z | z
                      · exact absurd (show nI (j + 1) < nI 14 from nI_lt z (by decide)) c_83
                      · exact z))]; exact ⟨⟨rfl, g1.2.1⟩, hf1, hl1⟩))
      · refine x_iconst (v := -1) dX7_read_61 (by decide) ?_
        exact s_iret dX7_read_62 rfl (by rw [if_pos (fun z => c_58 (by rw [hs1, g1.1.1]; exact nI_lt z (by omega)))]; exact ⟨⟨rfl, hc1, g1.2.2.2.2.1, g1.2.2.2.2.2.1, g1.2.2.2.2.2.2.1, by omega, by omega⟩, hf1, hl1⟩)
set_option maxRecDepth 100000 in
theorem k_read (σ : Sg) {len n : Nat} {c : Nat → Nat} (hT : TX σ len c) (hn : σ 3 5 = nI n) (hn8 : n ≤ 8) : Cm 7 YX7_read [.ref 1, .ref 3, .ref 9] σ (fun v σ' => RDP len σ σ' v (rdA len c (plP n σ 3))) := by
  refine Cm_of (by decide +kernel) (Nat.le_of_ble_eq_true rfl) ?_
  unfold rdA
  refine x_aload_n dX7_read_0 rfl ?_
  refine x_aload_n dX7_read_1 rfl ?_
  refine s_callV dX7_read_2 (k_plcopy σ (P := 9) (O := 3) (Or.inl ⟨rfl, rfl⟩)) rfl w_X3_copyFrom lmX7_28 im_X3_copyFrom se_X3_copyFrom rfl (rfl) rfl (Nat.le_of_ble_eq_true rfl) rfl (by decide) (fun v_2 σ_2 h_2 => ?_)
  obtain ⟨rfl, p1, p2, p3⟩ := h_2
  refine x_aload_n dX7_read_5 rfl ?_
  refine x_iconst (v := 0) dX7_read_6 (by decide) ?_
  refine s_puti (ci := 7) (k := 3) (N := 5) (C := RX7) (T := TX7) (ty0 := tyX7) dX7_read_7 lfX7_22 inX7 tyX7_ok nmX7 rfl (by decide) rfl rfl (rfl) rfl ?_
  refine xname (fun σ_7 e_7 => ?_)
  refine x_aload_n dX7_read_10 rfl ?_
  refine x_iconst (v := 0) dX7_read_11 (by decide) ?_
  refine s_puti (ci := 7) (k := 4) (N := 5) (C := RX7) (T := TX7) (ty0 := tyX7) dX7_read_12 lfX7_25 inX7 tyX7_ok nmX7 rfl (by decide) rfl rfl (rfl) rfl ?_
  refine xname (fun σ_12 e_12 => ?_)
  have e2 : ∀ k, k ≠ 3 → k ≠ 4 → σ_12 1 k = σ 1 k := fun k a b => by rw [e_12, sg_k _ _ _ b, e_7, sg_k _ _ _ a, p3 1 (by decide)]
  have e3 : ∀ d, d ≠ 1 → ¬ (9 ≤ d ∧ d ≤ 14) → σ_12 d = σ d := fun d a b => by rw [e_12, sg_n _ _ _ a, e_7, sg_n _ _ _ a, p3 d b]
  have hT12 : TX σ_12 len c := ⟨by rw [e2 1 (by decide) (by decide)]; exact hT.1, hT.2.1, fun i hi => by rw [e3 2 (by decide) (by decide)]; exact hT.2.2 i hi⟩
  refine x_aload_n dX7_read_15 rfl ?_
  refine s_callV dX7_read_16 (k_step σ_12 (len := len) (e := 0) (c := c) hT12 (by rw [e_12, sg_k _ _ _ (by decide), e_7, sg_s]; rfl) (Nat.zero_le _)) rfl w_X7_step lmX7_34 im_X7_step se_X7_step rfl (rfl) rfl (Nat.le_of_ble_eq_true rfl) rfl (by decide) (fun v_16 σ_16 h_16 => ?_)
  obtain ⟨rfl, rfl⟩ := h_16
  refine x_iconst (v := 0) dX7_read_19 (by decide) ?_
  refine x_istore_n dX7_read_20 (Nat.le_of_ble_eq_true rfl) rfl ?_
  have e9 : ∀ d, d ≠ 1 → σ_12 d = σ_2 d := fun d a => by rw [e_12, sg_n _ _ _ a, e_7, sg_n _ _ _ a]
  refine l_read σ 14 0 _ _ _ rfl ⟨TX_st2 hT12 _ _, tkS_le (Nat.zero_le _), st2_s _ _ _, st2_e _ _ _, by rw [st2_n _ _ _ (by decide), e9 9 (by decide), p1]; exact hn, hn8, ?_, rfl, fun _ _ _ => rfl⟩ ?_ ?_ ?_
  · rw [← p2 n hn8]
    show plP n (st2 σ_12 _ _) 9 = plP n σ_2 9
    rw [plP_st2]
    unfold plP
    rw [e9 9 (by decide), e9 10 (by decide), e9 11 (by decide), e9 12 (by decide), e9 13 (by decide), e9 14 (by decide)]
  · rw [st2_c, e_12, sg_s]; rfl
  · exact fun d a b => by rw [st2_n _ _ _ a]; exact e3 d a b
  · rw [st2_l]; exact e2 1 (by decide) (by decide)
set_option maxRecDepth 100000 in
theorem k_fault (σ : Sg) {len n : Nat} {c : Nat → Nat} (hT : TX σ len c) (hn : σ 3 5 = nI n) (hn8 : n ≤ 8) : Cm 12 YX8_fault [.ref 0] σ (fun v σ' => RDP len σ σ' v (rdA len c (plP n σ 3))) := by
  refine Cm_of (by decide +kernel) (Nat.le_of_ble_eq_true rfl) ?_
  have hr := k_read σ hT hn hn8
  generalize rdA len c (plP n σ 3) = r at hr ⊢
  cases r with
  | inl f =>
    refine x_aload_n dX8_fault_0 rfl ?_
    refine s_getr (ci := 8) (k := 0) (N := 10) (C := RX8) (T := TX8) dX8_fault_1 lfX8_10 inX8 rfl (by decide) (rfl) rfl ?_
    refine x_aload_n dX8_fault_4 rfl ?_
    refine s_getr (ci := 8) (k := 1) (N := 10) (C := RX8) (T := TX8) dX8_fault_5 lfX8_19 inX8 rfl (by decide) (rfl) rfl ?_
    refine x_aload_n dX8_fault_8 rfl ?_
    refine s_getr (ci := 8) (k := 2) (N := 10) (C := RX8) (T := TX8) dX8_fault_9 lfX8_23 inX8 rfl (by decide) (rfl) rfl ?_
    refine s_callV dX8_fault_12 (hr) rfl w_X7_read lmX8_79 im_X7_read se_X7_read rfl (rfl) rfl (Nat.le_of_ble_eq_true rfl) rfl (by decide) (fun v_12 σ_12 h_12 => ?_)
    obtain ⟨⟨rfl, g1⟩, g2⟩ := h_12
    exact s_iret dX8_fault_15 rfl (⟨⟨rfl, g1⟩, g2⟩)
  | inr q =>
    refine x_aload_n dX8_fault_0 rfl ?_
    refine s_getr (ci := 8) (k := 0) (N := 10) (C := RX8) (T := TX8) dX8_fault_1 lfX8_10 inX8 rfl (by decide) (rfl) rfl ?_
    refine x_aload_n dX8_fault_4 rfl ?_
    refine s_getr (ci := 8) (k := 1) (N := 10) (C := RX8) (T := TX8) dX8_fault_5 lfX8_19 inX8 rfl (by decide) (rfl) rfl ?_
    refine x_aload_n dX8_fault_8 rfl ?_
    refine s_getr (ci := 8) (k := 2) (N := 10) (C := RX8) (T := TX8) dX8_fault_9 lfX8_23 inX8 rfl (by decide) (rfl) rfl ?_
    refine s_callV dX8_fault_12 (hr) rfl w_X7_read lmX8_79 im_X7_read se_X7_read rfl (rfl) rfl (Nat.le_of_ble_eq_true rfl) rfl (by decide) (fun v_12 σ_12 h_12 => ?_)
    obtain ⟨⟨rfl, g1⟩, g2⟩ := h_12
    exact s_iret dX8_fault_15 rfl (⟨⟨rfl, g1⟩, g2⟩)
/-- behind a text: the town anew -/
def TWP (σ σ' : Sg) (v : Option Value) (r : Nat ⊕ (Nat × PL)) : Prop := match r with
  | .inl _ => v = some (.int (-4)) ∧ FR σ σ' ∧ σ' 1 1 = σ 1 1
  | .inr q => v = some (.int (nI q.1)) ∧ q.2.1 ≤ 8 ∧ σ' 3 5 = nI q.2.1 ∧ plP q.2.1 σ' 3 = q.2 ∧ moC q.2.1 σ' 15 = (q.2.2.2.2.2.2.2.1, q.2.2.2.2.2.2.1, -1, 0) ∧ σ' 21 1 = 0 ∧ σ' 21 2 = 0 ∧ σ' 49 0 = 0 ∧ σ' 49 1 = 0 ∧ σ' 56 2 = 0 ∧ σ' 1 1 = 0 ∧ ∀ d, 81 ≤ d → σ' d = σ d
set_option maxRecDepth 100000 in
theorem k_town (σ : Sg) {len n : Nat} {c : Nat → Nat} (hT : TX σ len c) (hn : σ 3 5 = nI n) (hn8 : n ≤ 8) : Cm 12 YX8_town [.ref 0] σ (fun v σ' => TWP σ σ' v (rdA len c (plP n σ 3))) := by
  refine Cm_of (by decide +kernel) (Nat.le_of_ble_eq_true rfl) ?_
  have hr := k_read σ hT hn hn8
  have hm1 : ∀ m : Nat, m ≤ 160 → ¬ nI m = -1 := fun m hm z => by have := nI_pos' (n := m) (by omega); rw [z] at this; exact absurd this (by decide)
  have hl := hT.2.1
  generalize rdA len c (plP n σ 3) = r at hr ⊢
  cases r with
  | inl f =>
    refine x_aload_n dX8_town_0 rfl ?_
    refine s_getr (ci := 8) (k := 0) (N := 10) (C := RX8) (T := TX8) dX8_town_1 lfX8_10 inX8 rfl (by decide) (rfl) rfl ?_
    refine x_aload_n dX8_town_4 rfl ?_
    refine s_getr (ci := 8) (k := 1) (N := 10) (C := RX8) (T := TX8) dX8_town_5 lfX8_19 inX8 rfl (by decide) (rfl) rfl ?_
    refine x_aload_n dX8_town_8 rfl ?_
    refine s_getr (ci := 8) (k := 2) (N := 10) (C := RX8) (T := TX8) dX8_town_9 lfX8_23 inX8 rfl (by decide) (rfl) rfl ?_
    refine s_callV dX8_town_12 (hr) rfl w_X7_read lmX8_79 im_X7_read se_X7_read rfl (rfl) rfl (Nat.le_of_ble_eq_true rfl) rfl (by decide) (fun v_12 σ_12 h_12 => ?_)
    obtain ⟨⟨rfl, g1⟩, g2⟩ := h_12
    refine x_iconst (v := -1) dX8_town_15 (by decide) ?_
    refine x_icmp_eq (tgt := 22) dX8_town_16 (by decide) (fun c_16 => (absurd c_16 (hm1 f (by omega)))) (fun c_16 => ?_)
    refine x_bipush (v := -4) dX8_town_19 (by decide) ?_
    exact s_iret dX8_town_21 rfl (⟨rfl, g2⟩)
  | inr q =>
    refine x_aload_n dX8_town_0 rfl ?_
    refine s_getr (ci := 8) (k := 0) (N := 10) (C := RX8) (T := TX8) dX8_town_1 lfX8_10 inX8 rfl (by decide) (rfl) rfl ?_
    refine x_aload_n dX8_town_4 rfl ?_
    refine s_getr (ci := 8) (k := 1) (N := 10) (C := RX8) (T := TX8) dX8_town_5 lfX8_19 inX8 rfl (by decide) (rfl) rfl ?_
    refine x_aload_n dX8_town_8 rfl ?_
    refine s_getr (ci := 8) (k := 2) (N := 10) (C := RX8) (T := TX8) dX8_town_9 lfX8_23 inX8 rfl (by decide) (rfl) rfl ?_
    refine s_callV dX8_town_12 (hr) rfl w_X7_read lmX8_79 im_X7_read se_X7_read rfl (rfl) rfl (Nat.le_of_ble_eq_true rfl) rfl (by decide) (fun v_12 σ_12 h_12 => ?_)
    obtain ⟨⟨rfl, g1, g2, g3, g4, g5, g6⟩, g7, g8⟩ := h_12
    refine x_iconst (v := -1) dX8_town_15 (by decide) ?_
    refine x_icmp_eq (tgt := 22) dX8_town_16 (by decide) (fun c_16 => ?_) (fun c_16 => (absurd rfl c_16))
    refine x_aload_n dX8_town_22 rfl ?_
    refine s_getr (ci := 8) (k := 1) (N := 10) (C := RX8) (T := TX8) dX8_town_23 lfX8_19 inX8 rfl (by decide) (rfl) rfl ?_
    refine x_aload_n dX8_town_26 rfl ?_
    refine s_getr (ci := 8) (k := 2) (N := 10) (C := RX8) (T := TX8) dX8_town_27 lfX8_23 inX8 rfl (by decide) (rfl) rfl ?_
    refine s_callV dX8_town_30 (k_plcopy σ_12 (P := 3) (O := 9) (Or.inr ⟨rfl, rfl⟩)) rfl w_X3_copyFrom lmX8_83 im_X3_copyFrom se_X3_copyFrom rfl (rfl) rfl (Nat.le_of_ble_eq_true rfl) rfl (by decide) (fun v_30 σ_30 h_30 => ?_)
    obtain ⟨rfl, p1, p2, p3⟩ := h_30
    refine x_aload_n dX8_town_33 rfl ?_
    refine s_getr (ci := 8) (k := 3) (N := 10) (C := RX8) (T := TX8) dX8_town_34 lfX8_29 inX8 rfl (by decide) (rfl) rfl ?_
    refine x_aload_n dX8_town_37 rfl ?_
    refine s_getr (ci := 8) (k := 1) (N := 10) (C := RX8) (T := TX8) dX8_town_38 lfX8_19 inX8 rfl (by decide) (rfl) rfl ?_
    refine s_callV dX8_town_41 (k_mobegin σ_30) rfl w_X1_begin lmX8_87 im_X1_begin se_X1_begin rfl (rfl) rfl (Nat.le_of_ble_eq_true rfl) rfl (by decide) (fun v_41 σ_41 h_41 => ?_)
    obtain ⟨rfl, m1, m2⟩ := h_41
    refine x_aload_n dX8_town_44 rfl ?_
    refine s_getr (ci := 8) (k := 5) (N := 10) (C := RX8) (T := TX8) dX8_town_45 lfX8_39 inX8 rfl (by decide) (rfl) rfl ?_
    refine s_callV dX8_town_48 (k_paclear σ_41) rfl w_X2_clear lmX8_90 im_X2_clear se_X2_clear rfl (rfl) rfl (Nat.le_of_ble_eq_true rfl) rfl (by decide) (fun v_48 σ_48 h_48 => ?_)
    obtain ⟨rfl, rfl⟩ := h_48
    refine x_aload_n dX8_town_51 rfl ?_
    refine s_getr (ci := 8) (k := 6) (N := 10) (C := RX8) (T := TX8) dX8_town_52 lfX8_46 inX8 rfl (by decide) (rfl) rfl ?_
    refine s_callV dX8_town_55 (l_shclear _) rfl w_X5_clear lmX8_93 im_X5_clear se_X5_clear rfl (rfl) rfl (Nat.le_of_ble_eq_true rfl) rfl (by decide) (fun v_55 σ_55 h_55 => ?_)
    obtain ⟨rfl, s1, s2⟩ := h_55
    refine x_aload_n dX8_town_58 rfl ?_
    refine s_getr (ci := 8) (k := 7) (N := 10) (C := RX8) (T := TX8) dX8_town_59 lfX8_53 inX8 rfl (by decide) (rfl) rfl ?_
    refine x_iconst (v := 0) dX8_town_62 (by decide) ?_
    refine s_putiN (ci := 6) (k := 2) (N := 3) (C := RX6) (T := TX6) (ty0 := tyX6) dX8_town_63 lfX8_94 inX6 tyX6_ok nmX6 rfl (by decide) rfl rfl (rfl) rfl ?_
    refine xname (fun σ_63 e_63 => ?_)
    refine x_aload_n dX8_town_66 rfl ?_
    refine s_getr (ci := 8) (k := 0) (N := 10) (C := RX8) (T := TX8) dX8_town_67 lfX8_10 inX8 rfl (by decide) (rfl) rfl ?_
    refine x_iconst (v := 0) dX8_town_70 (by decide) ?_
    refine s_putiN (ci := 7) (k := 1) (N := 5) (C := RX7) (T := TX7) (ty0 := tyX7) dX8_town_71 lfX8_75 inX7 tyX7_ok nmX7 rfl (by decide) rfl rfl (rfl) rfl ?_
    refine xname (fun σ_71 e_71 => ?_)
    refine x_aload_n dX8_town_74 rfl ?_
    refine s_getr (ci := 8) (k := 0) (N := 10) (C := RX8) (T := TX8) dX8_town_75 lfX8_10 inX8 rfl (by decide) (rfl) rfl ?_
    refine s_getiN (ci := 7) (k := 4) (N := 5) (C := RX7) (T := TX7) dX8_town_78 lfX8_97 inX7 rfl (by decide) (rfl) rfl ?_
    refine s_iret dX8_town_81 rfl ?_
    have a : ∀ d, ¬ (3 ≤ d ∧ d ≤ 8) → ¬ (15 ≤ d ∧ d ≤ 17) → d ≠ 21 → d ≠ 49 → d ≠ 56 → d ≠ 1 → σ_71 d = σ_12 d := fun d a1 a2 a3 a4 a5 a6 => by rw [e_71, sg_n _ _ _ a6, e_63, sg_n _ _ _ a5, s2 d a4, sg_n _ _ _ a3, sg_n _ _ _ a3, m2 d a2, p3 d a1]
    have b : ∀ d, ¬ (15 ≤ d ∧ d ≤ 17) → d ≠ 21 → d ≠ 49 → d ≠ 56 → d ≠ 1 → σ_71 d = σ_30 d := fun d a2 a3 a4 a5 a6 => by rw [e_71, sg_n _ _ _ a6, e_63, sg_n _ _ _ a5, s2 d a4, sg_n _ _ _ a3, sg_n _ _ _ a3, m2 d a2]
    have hpl : plP q.2.1 σ_30 3 = q.2 := by rw [p2 _ g3]; exact g4
    refine ⟨?_, g3, ?_, ?_, ?_, ?_, ?_, ?_, ?_, ?_, ?_, ?_⟩
    · rw [show σ_71 1 4 = nI q.1 by rw [e_71, sg_k _ _ _ (by decide), e_63, sg_n _ _ _ (by decide), s2 1 (by decide), sg_n _ _ _ (by decide), sg_n _ _ _ (by decide), m2 1 (by decide), p3 1 (by decide)]; exact g1]
    · rw [b 3 (by decide) (by decide) (by decide) (by decide) (by decide), p1]; exact g2
    · rw [← hpl]
      unfold plP
      rw [b 3 (by decide) (by decide) (by decide) (by decide) (by decide), b 4 (by decide) (by decide) (by decide) (by decide) (by decide), b 5 (by decide) (by decide) (by decide) (by decide) (by decide), b 6 (by decide) (by decide) (by decide) (by decide) (by decide), b 7 (by decide) (by decide) (by decide) (by decide) (by decide), b 8 (by decide) (by decide) (by decide) (by decide) (by decide)]
    · have em : moC q.2.1 σ_71 15 = moC q.2.1 σ_41 15 := moC_fr (fun d x y => by rw [e_71, sg_n _ _ _ (by omega), e_63, sg_n _ _ _ (by omega), s2 d (by omega), sg_n _ _ _ (by omega), sg_n _ _ _ (by omega)])
      rw [em, m1 _ g3]
      have h7 := congrArg (fun z : PL => z.2.2.2.2.2.2.1) hpl
      have h6 := congrArg (fun z : PL => z.2.2.2.2.2.1) hpl
      exact congr (congrArg Prod.mk h7) (congr (congrArg Prod.mk h6) rfl)
    · rw [e_71, sg_n _ _ _ (by decide), e_63, sg_n _ _ _ (by decide), s2 21 (by decide), sg_k _ _ _ (by decide), sg_s]
    · rw [e_71, sg_n _ _ _ (by decide), e_63, sg_n _ _ _ (by decide), s2 21 (by decide), sg_s]
    · rw [e_71, sg_n _ _ _ (by decide), e_63, sg_n _ _ _ (by decide)]; exact s1 0 (by decide)
    · rw [e_71, sg_n _ _ _ (by decide), e_63, sg_n _ _ _ (by decide)]; exact s1 1 (by decide)
    · rw [e_71, sg_n _ _ _ (by decide), e_63, sg_s]
    · rw [e_71, sg_s]
    · intro d hd
      rw [a d (by omega) (by omega) (by omega) (by omega) (by omega) (by omega)]
      exact g7 d (by omega) (by omega)
