/-! ===== RainBallot's calls, 3 ===== -/

/-- behind something that can be undone: the Past -/
def paP (n nx sz : Nat) (σ σ' : Sg) : Prop := σ' 21 1 = nI ((nx + 1) % 8) ∧ σ' 21 2 = nI (min (sz + 1) 8) ∧ moC n σ' (23 + 3 * nx) = moC n σ 15 ∧ ∀ c, (c < 15 ∨ (c = 22 ∨ (23 ≤ c ∧ c ≤ 46 ∧ ¬ (23 + 3 * nx ≤ c ∧ c ≤ 23 + 3 * nx + 2)) ∨ (47 ≤ c ∧ c ≤ 58)) ∨ 81 ≤ c) → σ' c = σ c
set_option maxRecDepth 100000 in
theorem k_day_f (σ : Sg) (h : σ 15 3 = 999) : Cm 12 YX8_day [.ref 0] σ (fun v σ' => v = some (.int (-5)) ∧ σ' = σ) := by
  refine Cm_of (by decide +kernel) (Nat.le_of_ble_eq_true rfl) ?_
  refine x_aload_n dX8_day_0 rfl ?_
  refine s_getr (ci := 8) (k := 3) (N := 10) (C := RX8) (T := TX8) dX8_day_1 lfX8_29 inX8 rfl (by decide) (rfl) rfl ?_
  refine s_getiN (ci := 1) (k := 3) (N := 4) (C := RX1) (T := TX1) dX8_day_4 lfX8_143 inX1 rfl (by decide) (rfl) rfl ?_
  refine x_sipush (v := 999) dX8_day_7 (by decide) ?_
  refine x_icmp_lt (tgt := 16) dX8_day_10 (by decide) (fun c_10 => (absurd c_10 (by rw [h]; decide))) (fun c_10 => ?_)
  refine x_bipush (v := -5) dX8_day_13 (by decide) ?_
  exact s_iret dX8_day_15 rfl (⟨rfl, rfl⟩)
set_option maxRecDepth 100000 in
theorem k_day (σ : Sg) {n nx sz : Nat} (hn : σ 3 5 = nI n) (hn8 : n ≤ 8) (h1 : σ 21 1 = nI nx) (h2 : nx < 8) (h3 : σ 21 2 = nI sz) (h4 : sz ≤ 8) (h : σ 15 3 < 999) : Cm 12 YX8_day [.ref 0] σ (fun v σ' => v = some (.int (caF (plC n σ) (moC n σ 15) 0 0 (-1))) ∧ moC n σ' 15 = daF (plC n σ) (moC n σ 15) ∧ paP n nx sz σ σ') := by
  refine Cm_of (by decide +kernel) (Nat.le_of_ble_eq_true rfl) ?_
  refine x_aload_n dX8_day_0 rfl ?_
  refine s_getr (ci := 8) (k := 3) (N := 10) (C := RX8) (T := TX8) dX8_day_1 lfX8_29 inX8 rfl (by decide) (rfl) rfl ?_
  refine s_getiN (ci := 1) (k := 3) (N := 4) (C := RX1) (T := TX1) dX8_day_4 lfX8_143 inX1 rfl (by decide) (rfl) rfl ?_
  refine x_sipush (v := 999) dX8_day_7 (by decide) ?_
  refine x_icmp_lt (tgt := 16) dX8_day_10 (by decide) (fun c_10 => ?_) (fun c_10 => (absurd h c_10))
  refine x_aload_n dX8_day_16 rfl ?_
  refine s_getr (ci := 8) (k := 5) (N := 10) (C := RX8) (T := TX8) dX8_day_17 lfX8_39 inX8 rfl (by decide) (rfl) rfl ?_
  refine x_aload_n dX8_day_20 rfl ?_
  refine s_getr (ci := 8) (k := 3) (N := 10) (C := RX8) (T := TX8) dX8_day_21 lfX8_29 inX8 rfl (by decide) (rfl) rfl ?_
  refine s_callV dX8_day_24 (k_remember σ h1 h2 h3 h4) rfl w_X2_remember lmX8_146 im_X2_remember se_X2_remember rfl (rfl) rfl (Nat.le_of_ble_eq_true rfl) rfl (by decide) (fun v_24 σ_24 h_24 => ?_)
  obtain ⟨rfl, r1, r2, r3, r4⟩ := h_24
  refine x_aload_n dX8_day_27 rfl ?_
  refine x_aload_n dX8_day_28 rfl ?_
  refine s_getr (ci := 8) (k := 3) (N := 10) (C := RX8) (T := TX8) dX8_day_29 lfX8_29 inX8 rfl (by decide) (rfl) rfl ?_
  refine s_callV dX8_day_32 (k_passDay σ_24 mo_15 (n := n) (by rw [r4 3 (by omega) (by omega) (by omega) (by omega)]; exact hn) hn8) rfl w_X8_passDay lmX8_150 im_X8_passDay se_X8_passDay rfl (rfl) rfl (Nat.le_of_ble_eq_true rfl) rfl (by decide) (fun v_32 σ_32 h_32 => ?_)
  obtain ⟨rfl, d1, d2⟩ := h_32
  skip
  refine s_iret dX8_day_35 rfl ?_
  have ep : plC n σ_24 = plC n σ := plC_fr (fun c a b => r4 c (by omega) (by omega) (by omega) (by omega))
  have em : moC n σ_24 15 = moC n σ 15 := moC_fr (fun c a b => r4 c (by omega) (by omega) (by omega) (by omega))
  rw [ep, em] at d1 ⊢
  refine ⟨rfl, d1, ?_, ?_, ?_, fun c hc => ?_⟩
  · rw [d2 21 (by omega) (by omega) (by omega) (by omega) (by omega) (by omega)]; exact r1
  · rw [d2 21 (by omega) (by omega) (by omega) (by omega) (by omega) (by omega)]; exact r2
  · rw [moC_fr (σ' := σ_32) (σ := σ_24) (fun c a b => d2 c (by omega) (by omega) (by omega) (by omega) (by omega) (by omega))]
    exact r3 n hn8
  · rw [d2 c (by omega) (by omega) (by omega) (by omega) (by omega) (by omega)]
    exact r4 c (by omega) (by omega) (by omega) (by omega)
def hoF (a b : Int32) : Int32 := if a + b < 99 then a + b else 99
set_option maxRecDepth 100000 in
theorem k_hose (σ : Sg) {n k nx sz : Nat} (hn : σ 3 5 = nI n) (hn8 : n ≤ 8) (hk : k < n) (h1 : σ 21 1 = nI nx) (h2 : nx < 8) (h3 : σ 21 2 = nI sz) (h4 : sz ≤ 8) {w : Nat} (hw1 : 1 ≤ w) (hw2 : w ≤ 20) : Cm 12 YX8_hose [.ref 0, .int (nI k), .int (nI w)] σ (fun v σ' => v = some (.int (hoF ((moC n σ 15).1 k) (nI w))) ∧ moC n σ' 15 = (upd (moC n σ 15).1 k (hoF ((moC n σ 15).1 k) (nI w)), (moC n σ 15).2) ∧ paP n nx sz σ σ') := by
  refine Cm_of (by decide +kernel) (Nat.le_of_ble_eq_true rfl) ?_
  have ew : (moC n σ 15).1 k = σ 16 k := tr_i hk
  refine x_aload_n dX8_hose_0 rfl ?_
  refine s_getr (ci := 8) (k := 1) (N := 10) (C := RX8) (T := TX8) dX8_hose_1 lfX8_19 inX8 rfl (by decide) (rfl) rfl ?_
  refine x_iload_n dX8_hose_4 rfl ?_
  refine s_callV dX8_hose_5 (k_has σ pl_3 hn hn8 (nI k)) rfl w_X3_has lmX8_100 im_X3_has se_X3_has rfl (rfl) rfl (Nat.le_of_ble_eq_true rfl) rfl (by decide) (fun v_5 σ_5 h_5 => ?_)
  obtain ⟨rfl, z_5⟩ := h_5
  have z_5 := z_5.symm
  subst z_5
  refine x_if_ne (tgt := 14) dX8_hose_8 (by decide) (fun c_8 => ?_) (fun c_8 => (absurd c_8 (by rw [inb_nI hk (by omega)]; decide)))
  refine x_iload_n dX8_hose_14 rfl ?_
  refine x_iconst (v := 1) dX8_hose_15 (by decide) ?_
  refine x_icmp_lt (tgt := 25) dX8_hose_16 (by decide) (fun c_16 => (absurd c_16 (show ¬ nI w < nI 1 from nI_nlt hw1 (by omega)))) (fun c_16 => ?_)
  refine x_iload_n dX8_hose_19 rfl ?_
  refine x_bipush (v := 20) dX8_hose_20 (by decide) ?_
  refine x_icmp_le (tgt := 28) dX8_hose_22 (by decide) (fun c_22 => ?_) (fun c_22 => (absurd (show nI w ≤ nI 20 from nI_le hw2 (by decide)) c_22))
  refine x_aload_n dX8_hose_28 rfl ?_
  refine s_getr (ci := 8) (k := 5) (N := 10) (C := RX8) (T := TX8) dX8_hose_29 lfX8_39 inX8 rfl (by decide) (rfl) rfl ?_
  refine x_aload_n dX8_hose_32 rfl ?_
  refine s_getr (ci := 8) (k := 3) (N := 10) (C := RX8) (T := TX8) dX8_hose_33 lfX8_29 inX8 rfl (by decide) (rfl) rfl ?_
  refine s_callV dX8_hose_36 (k_remember σ h1 h2 h3 h4) rfl w_X2_remember lmX8_146 im_X2_remember se_X2_remember rfl (rfl) rfl (Nat.le_of_ble_eq_true rfl) rfl (by decide) (fun v_36 σ_36 h_36 => ?_)
  obtain ⟨rfl, r1, r2, r3, r4⟩ := h_36
  have e16 : σ_36 16 = σ 16 := r4 16 (by omega) (by omega) (by omega) (by omega)
  refine x_aload_n dX8_hose_39 rfl ?_
  refine s_getr (ci := 8) (k := 3) (N := 10) (C := RX8) (T := TX8) dX8_hose_40 lfX8_29 inX8 rfl (by decide) (rfl) rfl ?_
  refine s_getrN (ci := 1) (k := 0) (N := 4) (C := RX1) (T := TX1) dX8_hose_43 lfX8_114 inX1 rfl (by decide) (rfl) rfl ?_
  refine x_iload_n dX8_hose_46 rfl ?_
  refine x_bipush (v := 99) dX8_hose_47 (by decide) ?_
  refine x_aload_n dX8_hose_49 rfl ?_
  refine s_getr (ci := 8) (k := 3) (N := 10) (C := RX8) (T := TX8) dX8_hose_50 lfX8_29 inX8 rfl (by decide) (rfl) rfl ?_
  refine s_getrN (ci := 1) (k := 0) (N := 4) (C := RX1) (T := TX1) dX8_hose_53 lfX8_114 inX1 rfl (by decide) (rfl) rfl ?_
  refine x_iload_n dX8_hose_56 rfl ?_
  refine s_iald dX8_hose_57 (rfl) (hi := rfl) (hj := by omega) (hn := by decide) ?_
  refine x_iload_n dX8_hose_58 rfl ?_
  refine x_iadd dX8_hose_59 ?_
  refine s_min dX8_hose_60 tmX8_154 rfl (Nat.le_of_ble_eq_true rfl) (by decide) ?_
  rw [e16]
  refine s_iast dX8_hose_63 (rfl) (hi := rfl) (hj := by omega) (hn := by decide) ?_
  refine xname (fun σ_63 e_63 => ?_)
  refine x_aload_n dX8_hose_64 rfl ?_
  refine s_getr (ci := 8) (k := 3) (N := 10) (C := RX8) (T := TX8) dX8_hose_65 lfX8_29 inX8 rfl (by decide) (rfl) rfl ?_
  refine s_getrN (ci := 1) (k := 0) (N := 4) (C := RX1) (T := TX1) dX8_hose_68 lfX8_114 inX1 rfl (by decide) (rfl) rfl ?_
  refine x_iload_n dX8_hose_71 rfl ?_
  refine s_iald dX8_hose_72 (rfl) (hi := rfl) (hj := by omega) (hn := by decide) ?_
  rw [show σ_63 16 k = (if σ 16 k + nI w < 99 then σ 16 k + nI w else 99) by rw [e_63, sg_s]]
  refine s_iret dX8_hose_73 rfl ?_
  rw [ew]
  refine ⟨rfl, ?_, ?_, ?_, ?_, fun c hc => ?_⟩
  · show (tr n (σ_63 16), tr n (σ_63 17), σ_63 15 2, σ_63 15 3) = (upd (tr n (σ 16)) k _, tr n (σ 17), σ 15 2, σ 15 3)
    rw [e_63, sg_row, tr_upd hk, e16, sg_n _ _ _ (by decide), sg_n _ _ _ (by decide), r4 17 (by omega) (by omega) (by omega) (by omega), r4 15 (by omega) (by omega) (by omega) (by omega)]
    rfl
  · rw [e_63, sg_n _ _ _ (by decide)]; exact r1
  · rw [e_63, sg_n _ _ _ (by decide)]; exact r2
  · rw [moC_fr (σ' := σ_63) (σ := σ_36) (fun c a b => by rw [e_63, sg_n _ _ _ (by omega)])]
    exact r3 n hn8
  · rw [e_63, sg_n _ _ _ (by omega)]
    exact r4 c (by omega) (by omega) (by omega) (by omega)
set_option maxRecDepth 100000 in
theorem k_poll (σ : Sg) {n k nx sz : Nat} (hn : σ 3 5 = nI n) (hn8 : n ≤ 8) (hk : k < n) (h1 : σ 21 1 = nI nx) (h2 : nx < 8) (h3 : σ 21 2 = nI sz) (h4 : sz ≤ 8) {w : Nat} (hw2 : w ≤ 20) : Cm 12 YX8_poll [.ref 0, .int (nI k), .int (nI w)] σ (fun v σ' => v = some (.int ((moC n σ 15).2.1 k)) ∧ moC n σ' 15 = ((moC n σ 15).1, upd (moC n σ 15).2.1 k (nI w), (moC n σ 15).2.2) ∧ paP n nx sz σ σ') := by
  refine Cm_of (by decide +kernel) (Nat.le_of_ble_eq_true rfl) ?_
  have ew : (moC n σ 15).2.1 k = σ 17 k := tr_i hk
  refine x_aload_n dX8_poll_0 rfl ?_
  refine s_getr (ci := 8) (k := 1) (N := 10) (C := RX8) (T := TX8) dX8_poll_1 lfX8_19 inX8 rfl (by decide) (rfl) rfl ?_
  refine x_iload_n dX8_poll_4 rfl ?_
  refine s_callV dX8_poll_5 (k_has σ pl_3 hn hn8 (nI k)) rfl w_X3_has lmX8_100 im_X3_has se_X3_has rfl (rfl) rfl (Nat.le_of_ble_eq_true rfl) rfl (by decide) (fun v_5 σ_5 h_5 => ?_)
  obtain ⟨rfl, z_5⟩ := h_5
  have z_5 := z_5.symm
  subst z_5
  refine x_if_ne (tgt := 14) dX8_poll_8 (by decide) (fun c_8 => ?_) (fun c_8 => (absurd c_8 (by rw [inb_nI hk (by omega)]; decide)))
  refine x_iload_n dX8_poll_14 rfl ?_
  refine x_if_lt (tgt := 24) dX8_poll_15 (by decide) (fun c_15 => (absurd c_15 (nI_pos (by omega)))) (fun c_15 => ?_)
  refine x_iload_n dX8_poll_18 rfl ?_
  refine x_bipush (v := 20) dX8_poll_19 (by decide) ?_
  refine x_icmp_le (tgt := 27) dX8_poll_21 (by decide) (fun c_21 => ?_) (fun c_21 => (absurd (show nI w ≤ nI 20 from nI_le hw2 (by decide)) c_21))
  refine x_aload_n dX8_poll_27 rfl ?_
  refine s_getr (ci := 8) (k := 5) (N := 10) (C := RX8) (T := TX8) dX8_poll_28 lfX8_39 inX8 rfl (by decide) (rfl) rfl ?_
  refine x_aload_n dX8_poll_31 rfl ?_
  refine s_getr (ci := 8) (k := 3) (N := 10) (C := RX8) (T := TX8) dX8_poll_32 lfX8_29 inX8 rfl (by decide) (rfl) rfl ?_
  refine s_callV dX8_poll_35 (k_remember σ h1 h2 h3 h4) rfl w_X2_remember lmX8_146 im_X2_remember se_X2_remember rfl (rfl) rfl (Nat.le_of_ble_eq_true rfl) rfl (by decide) (fun v_35 σ_35 h_35 => ?_)
  obtain ⟨rfl, r1, r2, r3, r4⟩ := h_35
  have e17 : σ_35 17 = σ 17 := r4 17 (by omega) (by omega) (by omega) (by omega)
  refine x_aload_n dX8_poll_38 rfl ?_
  refine s_getr (ci := 8) (k := 3) (N := 10) (C := RX8) (T := TX8) dX8_poll_39 lfX8_29 inX8 rfl (by decide) (rfl) rfl ?_
  refine s_getrN (ci := 1) (k := 1) (N := 4) (C := RX1) (T := TX1) dX8_poll_42 lfX8_111 inX1 rfl (by decide) (rfl) rfl ?_
  refine x_iload_n dX8_poll_45 rfl ?_
  refine s_iald dX8_poll_46 (rfl) (hi := rfl) (hj := by omega) (hn := by decide) ?_
  rw [e17]
  refine x_istore_n dX8_poll_47 (Nat.le_of_ble_eq_true rfl) rfl ?_
  refine x_aload_n dX8_poll_48 rfl ?_
  refine s_getr (ci := 8) (k := 3) (N := 10) (C := RX8) (T := TX8) dX8_poll_49 lfX8_29 inX8 rfl (by decide) (rfl) rfl ?_
  refine s_getrN (ci := 1) (k := 1) (N := 4) (C := RX1) (T := TX1) dX8_poll_52 lfX8_111 inX1 rfl (by decide) (rfl) rfl ?_
  refine x_iload_n dX8_poll_55 rfl ?_
  refine x_iload_n dX8_poll_56 rfl ?_
  refine s_iast dX8_poll_57 (rfl) (hi := rfl) (hj := by omega) (hn := by decide) ?_
  refine xname (fun σ_57 e_57 => ?_)
  refine x_iload_n dX8_poll_58 rfl ?_
  refine s_iret dX8_poll_59 rfl ?_
  rw [ew]
  refine ⟨rfl, ?_, ?_, ?_, ?_, fun c hc => ?_⟩
  · show (tr n (σ_57 16), tr n (σ_57 17), σ_57 15 2, σ_57 15 3) = (tr n (σ 16), upd (tr n (σ 17)) k _, σ 15 2, σ 15 3)
    rw [e_57, sg_row, tr_upd hk, e17, sg_n _ _ _ (by decide), sg_n _ _ _ (by decide), r4 16 (by omega) (by omega) (by omega) (by omega), r4 15 (by omega) (by omega) (by omega) (by omega)]
  · rw [e_57, sg_n _ _ _ (by decide)]; exact r1
  · rw [e_57, sg_n _ _ _ (by decide)]; exact r2
  · rw [moC_fr (σ' := σ_57) (σ := σ_35) (fun c a b => by rw [e_57, sg_n _ _ _ (by omega)])]
    exact r3 n hn8
  · rw [e_57, sg_n _ _ _ (by omega)]
    exact r4 c (by omega) (by omega) (by omega) (by omega)
set_option maxRecDepth 100000 in
theorem k_undo0 (σ : Sg) (h3 : σ 21 2 = nI 0) : Cm 12 YX8_undo [.ref 0] σ (fun v σ' => v = some (.int (-4)) ∧ σ' = σ) := by
  refine Cm_of (by decide +kernel) (Nat.le_of_ble_eq_true rfl) ?_
  refine x_aload_n dX8_undo_0 rfl ?_
  refine s_getr (ci := 8) (k := 5) (N := 10) (C := RX8) (T := TX8) dX8_undo_1 lfX8_39 inX8 rfl (by decide) (rfl) rfl ?_
  refine x_aload_n dX8_undo_4 rfl ?_
  refine s_getr (ci := 8) (k := 3) (N := 10) (C := RX8) (T := TX8) dX8_undo_5 lfX8_29 inX8 rfl (by decide) (rfl) rfl ?_
  refine s_callV dX8_undo_8 (k_recall0 σ h3) rfl w_X2_recall lmX8_160 im_X2_recall se_X2_recall rfl (rfl) rfl (Nat.le_of_ble_eq_true rfl) rfl (by decide) (fun v_8 σ_8 h_8 => ?_)
  obtain ⟨rfl, z_8⟩ := h_8
  have z_8 := z_8.symm
  subst z_8
  refine x_if_eq (tgt := 24) dX8_undo_11 (by decide) (fun c_11 => ?_) (fun c_11 => (absurd (by decide) c_11))
  refine x_bipush (v := -4) dX8_undo_24 (by decide) ?_
  exact s_iret dX8_undo_26 rfl (⟨rfl, rfl⟩)
set_option maxRecDepth 100000 in
theorem k_undo (σ : Sg) {nx sz : Nat} (h1 : σ 21 1 = nI nx) (h2 : nx < 8) (h3 : σ 21 2 = nI (sz + 1)) (h4 : sz < 8) : Cm 12 YX8_undo [.ref 0] σ (fun v σ' => v = some (.int (nI sz)) ∧ σ' 21 1 = nI ((nx + 7) % 8) ∧ σ' 21 2 = nI sz ∧ (∀ N, N ≤ 8 → moC N σ' 15 = moC N σ (23 + 3 * ((nx + 7) % 8))) ∧ ∀ c, c ≠ 21 → c ≠ 15 → c ≠ 16 → c ≠ 17 → σ' c = σ c) := by
  refine Cm_of (by decide +kernel) (Nat.le_of_ble_eq_true rfl) ?_
  refine x_aload_n dX8_undo_0 rfl ?_
  refine s_getr (ci := 8) (k := 5) (N := 10) (C := RX8) (T := TX8) dX8_undo_1 lfX8_39 inX8 rfl (by decide) (rfl) rfl ?_
  refine x_aload_n dX8_undo_4 rfl ?_
  refine s_getr (ci := 8) (k := 3) (N := 10) (C := RX8) (T := TX8) dX8_undo_5 lfX8_29 inX8 rfl (by decide) (rfl) rfl ?_
  refine s_callV dX8_undo_8 (k_recall σ h1 h2 h3 h4) rfl w_X2_recall lmX8_160 im_X2_recall se_X2_recall rfl (rfl) rfl (Nat.le_of_ble_eq_true rfl) rfl (by decide) (fun v_8 σ_8 h_8 => ?_)
  obtain ⟨rfl, r1, r2, r3, r4⟩ := h_8
  refine x_if_eq (tgt := 24) dX8_undo_11 (by decide) (fun c_11 => (absurd c_11 (by decide))) (fun c_11 => ?_)
  refine x_aload_n dX8_undo_14 rfl ?_
  refine s_getr (ci := 8) (k := 5) (N := 10) (C := RX8) (T := TX8) dX8_undo_15 lfX8_39 inX8 rfl (by decide) (rfl) rfl ?_
  refine s_getiN (ci := 2) (k := 2) (N := 3) (C := RX2) (T := TX2) dX8_undo_18 lfX8_164 inX2 rfl (by decide) (rfl) rfl ?_
  refine x_goto (tgt := 26) dX8_undo_21 (by decide) ?_
  exact s_iret dX8_undo_26 rfl (⟨by rw [r2], r1, r2, r3, r4⟩)
set_option maxRecDepth 100000 in
theorem k_keep_u (σ : Sg) (k : Int32) (h : inb 2 k = false) : Cm 12 YX8_keep [.ref 0, .int k] σ (fun v σ' => v = some (.int (-2)) ∧ σ' = σ) := by
  refine Cm_of (by decide +kernel) (Nat.le_of_ble_eq_true rfl) ?_
  refine x_iload_n dX8_keep_0 rfl ?_
  refine s_callS dX8_keep_1 (k_isShelf σ k) rfl w_X8_isShelf lmX8_165 st_X8_isShelf rfl (Nat.le_of_ble_eq_true rfl) rfl (by decide) (fun v_1 σ_1 h_1 => ?_)
  obtain ⟨rfl, z_1⟩ := h_1
  have z_1 := z_1.symm
  subst z_1
  refine x_if_ne (tgt := 10) dX8_keep_4 (by decide) (fun c_4 => (absurd (by rw [h]; rfl) c_4)) (fun c_4 => ?_)
  refine x_bipush (v := -2) dX8_keep_7 (by decide) ?_
  exact s_iret dX8_keep_9 rfl (⟨rfl, rfl⟩)
set_option maxRecDepth 100000 in
theorem k_keep (σ : Sg) {k : Nat} (hk : k < 2) : Cm 12 YX8_keep [.ref 0, .int (nI k)] σ (fun v σ' => v = some (.int (σ 15 3)) ∧ σ' 49 = upd (σ 49) k 1 ∧ (∀ N, N ≤ 8 → moC N σ' (50 + 3 * k) = moC N σ 15) ∧ ∀ c, c ≠ 49 → c ≠ 50 + 3 * k → c ≠ 50 + 3 * k + 1 → c ≠ 50 + 3 * k + 2 → σ' c = σ c) := by
  refine Cm_of (by decide +kernel) (Nat.le_of_ble_eq_true rfl) ?_
  refine x_iload_n dX8_keep_0 rfl ?_
  refine s_callS dX8_keep_1 (k_isShelf σ (nI k)) rfl w_X8_isShelf lmX8_165 st_X8_isShelf rfl (Nat.le_of_ble_eq_true rfl) rfl (by decide) (fun v_1 σ_1 h_1 => ?_)
  obtain ⟨rfl, z_1⟩ := h_1
  have z_1 := z_1.symm
  subst z_1
  refine x_if_ne (tgt := 10) dX8_keep_4 (by decide) (fun c_4 => ?_) (fun c_4 => (absurd c_4 (by rw [inb_nI hk (by omega)]; decide)))
  refine x_aload_n dX8_keep_10 rfl ?_
  refine s_getr (ci := 8) (k := 6) (N := 10) (C := RX8) (T := TX8) dX8_keep_11 lfX8_46 inX8 rfl (by decide) (rfl) rfl ?_
  refine x_iload_n dX8_keep_14 rfl ?_
  refine x_aload_n dX8_keep_15 rfl ?_
  refine s_getr (ci := 8) (k := 3) (N := 10) (C := RX8) (T := TX8) dX8_keep_16 lfX8_29 inX8 rfl (by decide) (rfl) rfl ?_
  refine s_callV dX8_keep_19 (k_shput σ hk) rfl w_X5_put lmX8_168 im_X5_put se_X5_put rfl (rfl) rfl (Nat.le_of_ble_eq_true rfl) rfl (by decide) (fun v_19 σ_19 h_19 => ?_)
  obtain ⟨rfl, r1, r2, r3⟩ := h_19
  refine x_aload_n dX8_keep_22 rfl ?_
  refine s_getr (ci := 8) (k := 3) (N := 10) (C := RX8) (T := TX8) dX8_keep_23 lfX8_29 inX8 rfl (by decide) (rfl) rfl ?_
  refine s_getiN (ci := 1) (k := 3) (N := 4) (C := RX1) (T := TX1) dX8_keep_26 lfX8_143 inX1 rfl (by decide) (rfl) rfl ?_
  exact s_iret dX8_keep_29 rfl (by rw [r3 15 (by omega) (by omega) (by omega) (by omega)]; exact ⟨rfl, r1, r2, r3⟩)
set_option maxRecDepth 100000 in
theorem k_back_u (σ : Sg) (k : Int32) (h : inb 2 k = false) : Cm 12 YX8_back [.ref 0, .int k] σ (fun v σ' => v = some (.int (-2)) ∧ σ' = σ) := by
  refine Cm_of (by decide +kernel) (Nat.le_of_ble_eq_true rfl) ?_
  refine x_iload_n dX8_back_0 rfl ?_
  refine s_callS dX8_back_1 (k_isShelf σ k) rfl w_X8_isShelf lmX8_165 st_X8_isShelf rfl (Nat.le_of_ble_eq_true rfl) rfl (by decide) (fun v_1 σ_1 h_1 => ?_)
  obtain ⟨rfl, z_1⟩ := h_1
  have z_1 := z_1.symm
  subst z_1
  refine x_if_ne (tgt := 10) dX8_back_4 (by decide) (fun c_4 => (absurd (by rw [h]; rfl) c_4)) (fun c_4 => ?_)
  refine x_bipush (v := -2) dX8_back_7 (by decide) ?_
  exact s_iret dX8_back_9 rfl (⟨rfl, rfl⟩)
set_option maxRecDepth 100000 in
theorem k_back0 (σ : Sg) {k : Nat} (hk : k < 2) (hu : σ 49 k = 0) : Cm 12 YX8_back [.ref 0, .int (nI k)] σ (fun v σ' => v = some (.int (-4)) ∧ σ' = σ) := by
  refine Cm_of (by decide +kernel) (Nat.le_of_ble_eq_true rfl) ?_
  refine x_iload_n dX8_back_0 rfl ?_
  refine s_callS dX8_back_1 (k_isShelf σ (nI k)) rfl w_X8_isShelf lmX8_165 st_X8_isShelf rfl (Nat.le_of_ble_eq_true rfl) rfl (by decide) (fun v_1 σ_1 h_1 => ?_)
  obtain ⟨rfl, z_1⟩ := h_1
  have z_1 := z_1.symm
  subst z_1
  refine x_if_ne (tgt := 10) dX8_back_4 (by decide) (fun c_4 => ?_) (fun c_4 => (absurd c_4 (by rw [inb_nI hk (by omega)]; decide)))
  refine x_aload_n dX8_back_10 rfl ?_
  refine s_getr (ci := 8) (k := 6) (N := 10) (C := RX8) (T := TX8) dX8_back_11 lfX8_46 inX8 rfl (by decide) (rfl) rfl ?_
  refine x_iload_n dX8_back_14 rfl ?_
  refine x_aload_n dX8_back_15 rfl ?_
  refine s_getr (ci := 8) (k := 3) (N := 10) (C := RX8) (T := TX8) dX8_back_16 lfX8_29 inX8 rfl (by decide) (rfl) rfl ?_
  refine s_callV dX8_back_19 (k_shtake0 σ hk hu) rfl w_X5_take lmX8_172 im_X5_take se_X5_take rfl (rfl) rfl (Nat.le_of_ble_eq_true rfl) rfl (by decide) (fun v_19 σ_19 h_19 => ?_)
  obtain ⟨rfl, z_19⟩ := h_19
  have z_19 := z_19.symm
  subst z_19
  refine x_if_ne (tgt := 28) dX8_back_22 (by decide) (fun c_22 => (absurd (by decide) c_22)) (fun c_22 => ?_)
  refine x_bipush (v := -4) dX8_back_25 (by decide) ?_
  exact s_iret dX8_back_27 rfl (⟨rfl, rfl⟩)
set_option maxRecDepth 100000 in
theorem k_back (σ : Sg) {k : Nat} (hk : k < 2) (hu : ¬ σ 49 k = 0) : Cm 12 YX8_back [.ref 0, .int (nI k)] σ (fun v σ' => v = some (.int (σ' 15 3)) ∧ σ' 21 1 = 0 ∧ σ' 21 2 = 0 ∧ (∀ N, N ≤ 8 → moC N σ' 15 = moC N σ (50 + 3 * k)) ∧ ∀ c, c ≠ 21 → c ≠ 15 → c ≠ 16 → c ≠ 17 → σ' c = σ c) := by
  refine Cm_of (by decide +kernel) (Nat.le_of_ble_eq_true rfl) ?_
  refine x_iload_n dX8_back_0 rfl ?_
  refine s_callS dX8_back_1 (k_isShelf σ (nI k)) rfl w_X8_isShelf lmX8_165 st_X8_isShelf rfl (Nat.le_of_ble_eq_true rfl) rfl (by decide) (fun v_1 σ_1 h_1 => ?_)
  obtain ⟨rfl, z_1⟩ := h_1
  have z_1 := z_1.symm
  subst z_1
  refine x_if_ne (tgt := 10) dX8_back_4 (by decide) (fun c_4 => ?_) (fun c_4 => (absurd c_4 (by rw [inb_nI hk (by omega)]; decide)))
  refine x_aload_n dX8_back_10 rfl ?_
  refine s_getr (ci := 8) (k := 6) (N := 10) (C := RX8) (T := TX8) dX8_back_11 lfX8_46 inX8 rfl (by decide) (rfl) rfl ?_
  refine x_iload_n dX8_back_14 rfl ?_
  refine x_aload_n dX8_back_15 rfl ?_
  refine s_getr (ci := 8) (k := 3) (N := 10) (C := RX8) (T := TX8) dX8_back_16 lfX8_29 inX8 rfl (by decide) (rfl) rfl ?_
  refine s_callV dX8_back_19 (k_shtake σ hk hu) rfl w_X5_take lmX8_172 im_X5_take se_X5_take rfl (rfl) rfl (Nat.le_of_ble_eq_true rfl) rfl (by decide) (fun v_19 σ_19 h_19 => ?_)
  obtain ⟨rfl, r1, r2⟩ := h_19
  refine x_if_ne (tgt := 28) dX8_back_22 (by decide) (fun c_22 => ?_) (fun c_22 => (absurd c_22 (by decide)))
  refine x_aload_n dX8_back_28 rfl ?_
  refine s_getr (ci := 8) (k := 5) (N := 10) (C := RX8) (T := TX8) dX8_back_29 lfX8_39 inX8 rfl (by decide) (rfl) rfl ?_
  refine s_callV dX8_back_32 (k_paclear σ_19) rfl w_X2_clear lmX8_90 im_X2_clear se_X2_clear rfl (rfl) rfl (Nat.le_of_ble_eq_true rfl) rfl (by decide) (fun v_32 σ_32 h_32 => ?_)
  obtain ⟨rfl, rfl⟩ := h_32
  refine x_aload_n dX8_back_35 rfl ?_
  refine s_getr (ci := 8) (k := 3) (N := 10) (C := RX8) (T := TX8) dX8_back_36 lfX8_29 inX8 rfl (by decide) (rfl) rfl ?_
  refine s_getiN (ci := 1) (k := 3) (N := 4) (C := RX1) (T := TX1) dX8_back_39 lfX8_143 inX1 rfl (by decide) (rfl) rfl ?_
  refine s_iret dX8_back_42 rfl ?_
  refine ⟨rfl, by rw [sg_k _ _ _ (by decide), sg_s], sg_s _ _ _ _, fun N hN => ?_, fun c a1 a2 a3 a4 => by rw [sg_n _ _ _ a1, sg_n _ _ _ a1]; exact r2 c a2 a3 a4⟩
  rw [← r1 N hN]
  exact moC_fr (fun c a b => by rw [sg_n _ _ _ (by omega), sg_n _ _ _ (by omega)])
set_option maxRecDepth 100000 in
theorem k_where (σ : Sg) {n N : Nat} (hn : σ 3 5 = nI n) (hn8 : n ≤ 8) (h1 : 1 ≤ N) (h2 : N ≤ 30) : Cm 12 YX8_where [.ref 0, .int (nI N)] σ (fun v σ' => v = some (.int (itF (plC n σ) (moC n σ 15) N).2.2.1) ∧ frQ σ σ') := by
  refine Cm_of (by decide +kernel) (Nat.le_of_ble_eq_true rfl) ?_
  refine x_iload_n dX8_where_0 rfl ?_
  refine x_iconst (v := 1) dX8_where_1 (by decide) ?_
  refine x_icmp_lt (tgt := 11) dX8_where_2 (by decide) (fun c_2 => (absurd c_2 (show ¬ nI N < nI 1 from nI_nlt h1 (by omega)))) (fun c_2 => ?_)
  refine x_iload_n dX8_where_5 rfl ?_
  refine x_bipush (v := 30) dX8_where_6 (by decide) ?_
  refine x_icmp_le (tgt := 14) dX8_where_8 (by decide) (fun c_8 => ?_) (fun c_8 => (absurd (show nI N ≤ nI 30 from nI_le h2 (by decide)) c_8))
  refine x_aload_n dX8_where_14 rfl ?_
  refine x_iload_n dX8_where_15 rfl ?_
  refine s_callV dX8_where_16 (k_passTrialDays σ hn hn8 (N := N) (by omega)) rfl w_X8_passTrialDays lmX8_176 im_X8_passTrialDays se_X8_passTrialDays rfl (rfl) rfl (Nat.le_of_ble_eq_true rfl) rfl (by decide) (fun v_16 σ_16 h_16 => ?_)
  obtain ⟨rfl, r1, r2⟩ := h_16
  refine x_aload_n dX8_where_19 rfl ?_
  refine s_getr (ci := 8) (k := 4) (N := 10) (C := RX8) (T := TX8) dX8_where_20 lfX8_33 inX8 rfl (by decide) (rfl) rfl ?_
  refine s_getiN (ci := 1) (k := 2) (N := 4) (C := RX1) (T := TX1) dX8_where_23 lfX8_180 inX1 rfl (by decide) (rfl) rfl ?_
  exact s_iret dX8_where_26 rfl (by rw [← r1]; exact ⟨rfl, fun c hc => r2 c (by omega) (by omega) (by omega) (by omega) (by omega) (by omega)⟩)
set_option maxRecDepth 100000 in
theorem k_wet (σ : Sg) {n k N : Nat} (hn : σ 3 5 = nI n) (hn8 : n ≤ 8) (hk : k < n) (h2 : N ≤ 30) : Cm 12 YX8_wet [.ref 0, .int (nI k), .int (nI N)] σ (fun v σ' => v = some (.int ((itF (plC n σ) (moC n σ 15) N).1 k)) ∧ frQ σ σ') := by
  refine Cm_of (by decide +kernel) (Nat.le_of_ble_eq_true rfl) ?_
  refine x_aload_n dX8_wet_0 rfl ?_
  refine s_getr (ci := 8) (k := 1) (N := 10) (C := RX8) (T := TX8) dX8_wet_1 lfX8_19 inX8 rfl (by decide) (rfl) rfl ?_
  refine x_iload_n dX8_wet_4 rfl ?_
  refine s_callV dX8_wet_5 (k_has σ pl_3 hn hn8 (nI k)) rfl w_X3_has lmX8_100 im_X3_has se_X3_has rfl (rfl) rfl (Nat.le_of_ble_eq_true rfl) rfl (by decide) (fun v_5 σ_5 h_5 => ?_)
  obtain ⟨rfl, z_5⟩ := h_5
  have z_5 := z_5.symm
  subst z_5
  refine x_if_ne (tgt := 14) dX8_wet_8 (by decide) (fun c_8 => ?_) (fun c_8 => (absurd c_8 (by rw [inb_nI hk (by omega)]; decide)))
  refine x_iload_n dX8_wet_14 rfl ?_
  refine x_if_lt (tgt := 24) dX8_wet_15 (by decide) (fun c_15 => (absurd c_15 (nI_pos (by omega)))) (fun c_15 => ?_)
  refine x_iload_n dX8_wet_18 rfl ?_
  refine x_bipush (v := 30) dX8_wet_19 (by decide) ?_
  refine x_icmp_le (tgt := 27) dX8_wet_21 (by decide) (fun c_21 => ?_) (fun c_21 => (absurd (show nI N ≤ nI 30 from nI_le h2 (by decide)) c_21))
  refine x_aload_n dX8_wet_27 rfl ?_
  refine x_iload_n dX8_wet_28 rfl ?_
  refine s_callV dX8_wet_29 (k_passTrialDays σ hn hn8 (N := N) (by omega)) rfl w_X8_passTrialDays lmX8_176 im_X8_passTrialDays se_X8_passTrialDays rfl (rfl) rfl (Nat.le_of_ble_eq_true rfl) rfl (by decide) (fun v_29 σ_29 h_29 => ?_)
  obtain ⟨rfl, r1, r2⟩ := h_29
  refine x_aload_n dX8_wet_32 rfl ?_
  refine s_getr (ci := 8) (k := 4) (N := 10) (C := RX8) (T := TX8) dX8_wet_33 lfX8_33 inX8 rfl (by decide) (rfl) rfl ?_
  refine s_getrN (ci := 1) (k := 0) (N := 4) (C := RX1) (T := TX1) dX8_wet_36 lfX8_114 inX1 rfl (by decide) (rfl) rfl ?_
  refine x_iload_n dX8_wet_39 rfl ?_
  refine s_iald dX8_wet_40 (rfl) (hi := rfl) (hj := by omega) (hn := by decide) ?_
  exact s_iret dX8_wet_41 rfl (by rw [← r1]; exact ⟨by rw [show (moC n σ_29 18).1 k = σ_29 19 k from tr_i hk], fun c hc => r2 c (by omega) (by omega) (by omega) (by omega) (by omega) (by omega)⟩)
