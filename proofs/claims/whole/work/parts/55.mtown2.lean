/-! ===== RainBallotModel: town ===== -/
/-- behind a text: the model's town anew -/
def TWM (σ σ' : Sg) (v : Option Value) (r : Nat ⊕ (Nat × PL)) : Prop := match r with
  | .inl _ => v = some (.int (-4)) ∧ F4 σ σ'
  | .inr q => v = some (.int (nI q.1)) ∧ q.2.1 ≤ 8 ∧ σ' 83 0 = nI q.2.1 ∧ plM q.2.1 σ' 83 = q.2 ∧ moS q.2.1 σ' = (q.2.2.2.2.2.2.2.1, q.2.2.2.2.2.2.1, -1, 0) ∧ σ' 81 6 = 0 ∧ σ' 81 10 = 0 ∧ σ' 81 1 = 0 ∧ σ' 88 0 = 0 ∧ σ' 88 1 = 0 ∧ (∀ i, i ≠ 1 → i ≠ 6 → i ≠ 10 → ¬ (11 ≤ i ∧ i ≤ 14) → σ' 81 i = σ 81 i) ∧ ∀ c, c ≠ 81 → c ≠ 83 → c ≠ 84 → c ≠ 85 → c ≠ 88 → σ' c = σ c
theorem plM_two {n c d : Nat} {σ σ' : Sg} (hn8 : n ≤ 8) (h : ∀ i, i < 43 → σ' c i = σ d i) : plM n σ' c = plM n σ d := by
  unfold plM
  rw [h 1 (by decide), h 2 (by decide), tr_ext (f := fun i => σ' c (3 + i)) (fun i hi => h (3 + i) (by omega)), tr_ext (f := fun i => σ' c (11 + i)) (fun i hi => h (11 + i) (by omega)), tr_ext (f := fun i => σ' c (19 + i)) (fun i hi => h (19 + i) (by omega)), tr_ext (f := fun i => σ' c (27 + i)) (fun i hi => h (27 + i) (by omega)), tr_ext (f := fun i => σ' c (35 + i)) (fun i hi => h (35 + i) (by omega))]
set_option maxRecDepth 100000 in
theorem k_mtown (σ : Sg) {len n : Nat} {c : Nat → Nat} (hT : TM σ len c) (hn : σ 83 0 = nI n) (hn8 : n ≤ 8) : Cm 12 YX9_town [.ref 81] σ (fun v σ' => TWM σ σ' v (rdA len c (plM n σ 83))) := by
  refine Cm_of (by decide +kernel) (Nat.le_of_ble_eq_true rfl) ?_
  have hr := k_reads σ hT hn hn8
  have hm1 : ∀ m : Nat, m ≤ 160 → ¬ nI m = -1 := fun m hm z => by have := nI_pos' (n := m) (by omega); rw [z] at this; exact absurd this (by decide)
  generalize rdA len c (plM n σ 83) = r at hr ⊢
  cases r with
  | inl f =>
    refine x_aload_n dX9_town_0 rfl ?_
    refine s_callV dX9_town_1 (hr) rfl w_X9_reads lmX9_107 im_X9_reads se_X9_reads rfl (rfl) rfl (Nat.le_of_ble_eq_true rfl) rfl (by decide) (fun v_1 σ_1 h_1 => ?_)
    obtain ⟨f4, rfl, h13⟩ := h_1
    refine x_istore_n dX9_town_4 (Nat.le_of_ble_eq_true rfl) rfl ?_
    refine x_iload_n dX9_town_5 rfl ?_
    refine x_iconst (v := -1) dX9_town_6 (by decide) ?_
    refine x_icmp_ne (tgt := 13) dX9_town_7 (by decide) (fun c_7 => (absurd rfl c_7)) (fun c_7 => ?_)
    refine x_bipush (v := -4) dX9_town_10 (by decide) ?_
    exact s_iret dX9_town_12 rfl (⟨rfl, f4⟩)
  | inr q =>
    refine x_aload_n dX9_town_0 rfl ?_
    refine s_callV dX9_town_1 (hr) rfl w_X9_reads lmX9_107 im_X9_reads se_X9_reads rfl (rfl) rfl (Nat.le_of_ble_eq_true rfl) rfl (by decide) (fun v_1 σ_1 h_1 => ?_)
    obtain ⟨f4, rfl, hd, q1, q2⟩ := h_1
    refine x_istore_n dX9_town_4 (Nat.le_of_ble_eq_true rfl) rfl ?_
    refine x_iload_n dX9_town_5 rfl ?_
    refine x_iconst (v := -1) dX9_town_6 (by decide) ?_
    refine x_icmp_ne (tgt := 13) dX9_town_7 (by decide) (fun c_7 => ?_) (fun c_7 => (absurd c_7 (hm1 q.1 (by omega))))
    refine x_iconst (v := 0) dX9_town_13 (by decide) ?_
    refine x_istore_n dX9_town_14 (Nat.le_of_ble_eq_true rfl) rfl ?_
    have h := l_mtw (a := q.1) (d := 12) (R := xQ (fun v σ' => TWM σ σ' v (.inr q))) σ_1 (fun W hW _ => ?_) 43 0 (σ_1 83) (by omega) (fun i hi => by omega) (fun i _ => rfl)
    · rw [sw_id] at h
      exact h
    · simp only [Nat.zero_add] at hW
      refine x_aload_n dX9_town_39 rfl ?_
      refine s_callV dX9_town_40 (k_lays (sw σ_1 83 W) (n := q.2.1) hd.2.1) rfl w_X9_lays lmX9_48 im_X9_lays se_X9_lays rfl (rfl) rfl (Nat.le_of_ble_eq_true rfl) rfl (by decide) (fun v_40 σ_40 h_40 => ?_)
      obtain ⟨rfl, ly⟩ := h_40
      obtain ⟨l1, l2, l3, l4, l5, l6, l7⟩ := ly
      refine x_aload_n dX9_town_43 rfl ?_
      refine x_iconst (v := 0) dX9_town_44 (by decide) ?_
      refine s_puti (ci := 9) (k := 1) (N := 20) (C := RX9) (T := TX9) (ty0 := tyX9) dX9_town_45 lfX9_55 inX9 tyX9_ok nmX9 rfl (by decide) rfl rfl (rfl) rfl ?_
      refine xname (fun σ_45 e_45 => ?_)
      refine x_iload_n dX9_town_48 rfl ?_
      refine s_iret dX9_town_49 rfl ?_
      have ew : ∀ i, i < 43 → sw σ_1 83 W 83 i = σ_1 84 i := fun i hi => by rw [sw_s]; exact hW i hi
      have ep : plM q.2.1 (sw σ_1 83 W) 83 = q.2 := (plM_two hd.2.1 ew).trans hd.2.2
      have e83 : σ_45 83 = sw σ_1 83 W 83 := by rw [e_45, sg_n _ _ _ (by decide), l7 83 (by decide) (by decide) (by decide)]
      have em : moS q.2.1 σ_45 = moS q.2.1 σ_40 := by unfold moS; rw [e_45, sg_n _ _ _ (by decide)]
      refine ⟨rfl, hd.2.1, ?_, ?_, ?_, ?_, ?_, ?_, ?_, ?_, fun i a b d e => ?_, fun c a b d e f => ?_⟩
      · rw [e83, ew 0 (by decide)]; exact hd.1
      · rw [plM_fr (σ := sw σ_1 83 W) e83]; exact ep
      · rw [em, l1, ep]
      · rw [e_45, sg_k _ _ _ (by decide)]; exact l2
      · rw [e_45, sg_k _ _ _ (by decide)]; exact l3
      · rw [e_45, sg_s]
      · rw [e_45, sg_n _ _ _ (by decide)]; exact l5
      · rw [e_45, sg_n _ _ _ (by decide)]; exact l6
      · rw [e_45, sg_k _ _ _ a, l4 i b d, sw_n _ _ (by decide)]; exact f4.1 i e
      · rw [e_45, sg_n _ _ _ a, l7 c a e f, sw_n _ _ b]; exact f4.2 c a d
