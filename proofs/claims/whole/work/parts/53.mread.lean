/-! ===== RainBallotModel's text: the whole of it; fault, town ===== -/


set_option maxRecDepth 100000 in
theorem l_mrd {d : Nat} {R : Option Value → xM → Prop} (σ0 : Sg)  (hk : ∀ W : FN, (∀ i, i < 43 → W (0 + i) = σ0 83 (0 + i)) → (∀ i, ¬ (0 ≤ i ∧ i < 0 + 43) → W i = σ0 84 i) → Ex (YX9_reads, d, xB0, none) 26 [.ref 81, .int (nI 43), .null] [] (xMs (sw σ0 84 W)) R) : ∀ (j k : Nat) (W : FN), k + j = 43 → (∀ i, i < k → W (0 + i) = σ0 83 (0 + i)) → (∀ i, ¬ (0 ≤ i ∧ i < 0 + k) → W i = σ0 84 i) →
    Ex (YX9_reads, d, xB0, none) 2 [.ref 81, .int (nI k), .null] [] (xMs (sw σ0 84 W)) R := by
  intro j
  induction j with
  | zero =>
    intro k W hk0 hW hO
    have hk1 : k = 43 := by omega
    subst hk1
    refine x_iload_n dX9_reads_2 rfl ?_
    refine x_bipush (v := 43) dX9_reads_3 (by decide) ?_
    refine x_icmp_ge (tgt := 26) dX9_reads_5 (by decide) (fun c_5 => ?_) (fun c_5 => (absurd (by decide) c_5))
    exact hk W hW hO
  | succ j ih =>
    intro k W hk0 hW hO
    have hkn : k < 43 := by omega
    have es : sw σ0 84 W 83 (0 + k) = σ0 83 (0 + k) := rfl
    refine x_iload_n dX9_reads_2 rfl ?_
    refine x_bipush (v := 43) dX9_reads_3 (by decide) ?_
    refine x_icmp_ge (tgt := 26) dX9_reads_5 (by decide) (fun c_5 => (absurd c_5 (show ¬ nI 43 ≤ nI k from nI_ge hkn (by omega)))) (fun c_5 => ?_)
    refine x_aload_n dX9_reads_8 rfl ?_
    refine s_getr (ci := 9) (k := 3) (N := 20) (C := RX9) (T := TX9) dX9_reads_9 lfX9_16 inX9 rfl (by decide) (rfl) rfl ?_
    refine x_iload_n dX9_reads_12 rfl ?_
    refine x_aload_n dX9_reads_13 rfl ?_
    refine s_getr (ci := 9) (k := 2) (N := 20) (C := RX9) (T := TX9) dX9_reads_14 lfX9_13 inX9 rfl (by decide) (rfl) rfl ?_
    refine x_iload_n dX9_reads_17 rfl ?_
    refine s_iald dX9_reads_18 (rfl) (hi := rfl) (hj := by omega) (hn := by decide) ?_
    refine s_iast dX9_reads_19 (rfl) (hi := rfl) (hj := by omega) (hn := by decide) ?_
    refine s_iinc dX9_reads_20 rfl (Nat.le_of_ble_eq_true rfl) rfl ?_
    refine x_goto (tgt := 2) dX9_reads_23 (by decide) ?_
    rw [sg_def _ 84, sw_sw, sw_s]
    refine ih (k + 1) _ (by omega) (fun i hi => ?_) (fun i hi => ?_)
    · unfold upd
      by_cases e : i = k
      · rw [if_pos (by omega), e]
        first | exact es | (simp only [Nat.zero_add] at es ⊢; exact es)
      · rw [if_neg (by omega)]
        exact hW i (by omega)
    · unfold upd
      rw [if_neg (by omega)]
      exact hO i (by omega)

set_option maxRecDepth 100000 in
theorem l_mtw {a d : Nat} {R : Option Value → xM → Prop} (σ0 : Sg)  (hk : ∀ W : FN, (∀ i, i < 43 → W (0 + i) = σ0 84 (0 + i)) → (∀ i, ¬ (0 ≤ i ∧ i < 0 + 43) → W i = σ0 83 i) → Ex (YX9_town, d, xB0, none) 39 [.ref 81, .int (nI a), .int (nI 43)] [] (xMs (sw σ0 83 W)) R) : ∀ (j k : Nat) (W : FN), k + j = 43 → (∀ i, i < k → W (0 + i) = σ0 84 (0 + i)) → (∀ i, ¬ (0 ≤ i ∧ i < 0 + k) → W i = σ0 83 i) →
    Ex (YX9_town, d, xB0, none) 15 [.ref 81, .int (nI a), .int (nI k)] [] (xMs (sw σ0 83 W)) R := by
  intro j
  induction j with
  | zero =>
    intro k W hk0 hW hO
    have hk1 : k = 43 := by omega
    subst hk1
    refine x_iload_n dX9_town_15 rfl ?_
    refine x_bipush (v := 43) dX9_town_16 (by decide) ?_
    refine x_icmp_ge (tgt := 39) dX9_town_18 (by decide) (fun c_18 => ?_) (fun c_18 => (absurd (by decide) c_18))
    exact hk W hW hO
  | succ j ih =>
    intro k W hk0 hW hO
    have hkn : k < 43 := by omega
    have es : sw σ0 83 W 84 (0 + k) = σ0 84 (0 + k) := rfl
    refine x_iload_n dX9_town_15 rfl ?_
    refine x_bipush (v := 43) dX9_town_16 (by decide) ?_
    refine x_icmp_ge (tgt := 39) dX9_town_18 (by decide) (fun c_18 => (absurd c_18 (show ¬ nI 43 ≤ nI k from nI_ge hkn (by omega)))) (fun c_18 => ?_)
    refine x_aload_n dX9_town_21 rfl ?_
    refine s_getr (ci := 9) (k := 2) (N := 20) (C := RX9) (T := TX9) dX9_town_22 lfX9_13 inX9 rfl (by decide) (rfl) rfl ?_
    refine x_iload_n dX9_town_25 rfl ?_
    refine x_aload_n dX9_town_26 rfl ?_
    refine s_getr (ci := 9) (k := 3) (N := 20) (C := RX9) (T := TX9) dX9_town_27 lfX9_16 inX9 rfl (by decide) (rfl) rfl ?_
    refine x_iload_n dX9_town_30 rfl ?_
    refine s_iald dX9_town_31 (rfl) (hi := rfl) (hj := by omega) (hn := by decide) ?_
    refine s_iast dX9_town_32 (rfl) (hi := rfl) (hj := by omega) (hn := by decide) ?_
    refine s_iinc dX9_town_33 rfl (Nat.le_of_ble_eq_true rfl) rfl ?_
    refine x_goto (tgt := 15) dX9_town_36 (by decide) ?_
    rw [sg_def _ 83, sw_sw, sw_s]
    refine ih (k + 1) _ (by omega) (fun i hi => ?_) (fun i hi => ?_)
    · unfold upd
      by_cases e : i = k
      · rw [if_pos (by omega), e]
        first | exact es | (simp only [Nat.zero_add] at es ⊢; exact es)
      · rw [if_neg (by omega)]
        exact hW i (by omega)
    · unfold upd
      rw [if_neg (by omega)]
      exact hO i (by omega)

def RDM (len : Nat) (c : Nat → Nat) (σ σ' : Sg) (v : Option Value) (r : Nat ⊕ (Nat × PL)) : Prop := F4 σ σ' ∧ match r with
  | .inl f => v = some (.int (-1)) ∧ σ' 81 13 = nI f
  | .inr q => v = some (.int (nI q.1)) ∧ DP σ' q.2 ∧ 1 ≤ q.1 ∧ q.1 ≤ 14
theorem so_3 {len : Nat} {c : Nat → Nat} {s : Nat} (h : c s = 59) (hs : s < len) : soF len c s = 3 := by
  unfold soF
  rw [if_neg (fun z => z hs), if_neg (by unfold smB isS; rw [h]; simp), if_neg (by unfold dgB isD; rw [h]; simp)]
set_option maxRecDepth 100000 in
set_option maxHeartbeats 1000000 in
theorem l_rloop {len : Nat} {c : Nat → Nat} (σ0 : Sg) : ∀ (f j e : Nat) (p : PL) (σ : Sg), f + j = 14 → TM σ len c → e ≤ len → σ 81 11 = nI e → DP σ p → F4 σ0 σ → 1 ≤ f → Ex (YX9_reads, 6, xB0, none) 35 [.ref 81, .int (nI j), .int 1] [] (xMs σ) (xQ (fun v σ' => RDM len c σ0 σ' v (rdF len c f j p (tkS len c e)))) := by
  intro f
  induction f with
  | zero => intro j e p σ _ _ _ _ _ _ h; omega
  | succ f ih =>
    intro j e p σ hj hT he h11 hd hf _
    have ht := k_token σ hT he h11
    refine x_iload_n dX9_reads_35 rfl ?_
    refine x_if_eq (tgt := 106) dX9_reads_36 (by decide) (fun c_36 => (absurd c_36 (by decide))) (fun c_36 => ?_)
    refine x_aload_n dX9_reads_39 rfl ?_
    refine s_callV dX9_reads_40 (ht) rfl w_X9_token lmX9_81 im_X9_token se_X9_token rfl (rfl) rfl (Nat.le_of_ble_eq_true rfl) rfl (by decide) (fun v_40 σ_40 h_40 => ?_)
    obtain ⟨rfl, k1, g1⟩ := h_40
    have hd1 : DP σ_40 p := ⟨by rw [g1.2 84 (by decide)]; exact hd.1, hd.2.1, by rw [plM_fr (g1.2 84 (by decide))]; exact hd.2.2⟩
    have hc := k_readsClause σ_40 k1 hd1
    have hF1 := hf.tr g1.f4
    refine x_aload_n dX9_reads_43 rfl ?_
    refine s_callV dX9_reads_44 (hc) rfl w_X9_readsClause lmX9_98 im_X9_readsClause se_X9_readsClause rfl (rfl) rfl (Nat.le_of_ble_eq_true rfl) rfl (by decide) (fun v_44 σ_44 h_44 => ?_)
    skip
    have er : rdF len c (f + 1) j p (tkS len c e) = match clsF len c p (tkS len c e) with
      | .inl x => .inl x
      | .inr q => if ¬ q.2 < len then .inr (j + 1, q.1) else if ¬ c q.2 = 59 ∨ 14 ≤ j + 1 then .inl q.2 else rdF len c f (j + 1) q.1 (nxF len c q.2) := rfl
    cases hr : clsF len c p (tkS len c e) with
    | inl x =>
      rw [hr] at h_44 er
      obtain ⟨f3, rfl, h13⟩ := h_44
      have fin : RDM len c σ0 σ_44 (some (.int (-1))) (rdF len c (f + 1) j p (tkS len c e)) := by rw [er]; exact ⟨hF1.tr f3, rfl, h13⟩
      refine x_if_ne (tgt := 52) dX9_reads_47 (by decide) (fun c_47 => (absurd c_47 (by decide))) (fun c_47 => ?_)
      refine x_iconst (v := -1) dX9_reads_50 (by decide) ?_
      exact s_iret dX9_reads_51 rfl (fin)
    | inr q =>
      rw [hr] at h_44 er
      obtain ⟨f3, rfl, hdq, e2, he2, h112, hS⟩ := h_44
      have hT2 := TM_F4 k1.1 f3
      have ht2 := k_token σ_44 hT2 he2 h112
      rw [hS] at ht2
      refine x_if_ne (tgt := 52) dX9_reads_47 (by decide) (fun c_47 => ?_) (fun c_47 => (absurd c_47 (by decide)))
      refine s_iinc dX9_reads_52 rfl (Nat.le_of_ble_eq_true rfl) rfl ?_
      refine x_aload_n dX9_reads_55 rfl ?_
      refine s_callV dX9_reads_56 (ht2) rfl w_X9_token lmX9_81 im_X9_token se_X9_token rfl (rfl) rfl (Nat.le_of_ble_eq_true rfl) rfl (by decide) (fun v_56 σ_56 h_56 => ?_)
      obtain ⟨rfl, k2, g2⟩ := h_56
      have hF2 := (hF1.tr f3).tr g2.f4
      have hd2 : DP σ_56 q.1 := ⟨by rw [g2.2 84 (by decide)]; exact hdq.1, hdq.2.1, by rw [plM_fr (g2.2 84 (by decide))]; exact hdq.2.2⟩
      have bad : q.2 < len → (¬ c q.2 = 59 ∨ 14 ≤ j + 1) → RDM len c σ0 σ_56 (some (.int (-1))) (rdF len c (f + 1) j p (tkS len c e)) := fun z1 z2 => by
        rw [er]
        show RDM len c σ0 σ_56 _ (if ¬ q.2 < len then _ else if ¬ c q.2 = 59 ∨ 14 ≤ j + 1 then _ else _)
        rw [if_neg (fun z => z z1), if_pos z2]
        exact ⟨hF2, rfl, k2.2.2.1⟩
      have good : ¬ q.2 < len → RDM len c σ0 σ_56 (some (.int (nI (j + 1)))) (rdF len c (f + 1) j p (tkS len c e)) := fun z1 => by
        rw [er]
        show RDM len c σ0 σ_56 _ (if ¬ q.2 < len then _ else _)
        rw [if_pos z1]
        exact ⟨hF2, rfl, hd2, by show 1 ≤ j + 1; omega, by show j + 1 ≤ 14; omega⟩
      have more : q.2 < len → c q.2 = 59 → ¬ 14 ≤ j + 1 → Ex (YX9_reads, 6, xB0, none) 35 [.ref 81, .int (nI (j + 1)), .int 1] [] (xMs σ_56) (xQ (fun v σ' => RDM len c σ0 σ' v (rdF len c (f + 1) j p (tkS len c e)))) := fun z1 z2 z3 => by
        rw [er]
        show Ex _ _ _ _ _ (xQ (fun v σ' => RDM len c σ0 σ' v (if ¬ q.2 < len then _ else if ¬ c q.2 = 59 ∨ 14 ≤ j + 1 then _ else _)))
        rw [if_neg (fun z => z z1), if_neg (fun z => z.elim (fun y => y z2) (fun y => z3 y))]
        exact ih (j + 1) (tkE len c q.2) q.1 σ_56 (by omega) k2.1 (tkE_le k2.2.1) k2.2.2.2.1 hd2 hF2 (by omega)
      have lt : ¬ soF len c q.2 = 0 → q.2 < len := fun z => by
        rcases Nat.lt_or_ge q.2 len with y | y
        · exact y
        · exact absurd (so_0.mpr (by omega)) z
      have c59 : q.2 < len → (nI (c q.2) = 59 ↔ c q.2 = 59) := fun z => nI_eq (b := 59) (by have := (hT2.2.2 q.2 z).2; omega) (by decide)
      have j14 : nI (j + 1) = 14 ↔ j + 1 = 14 := nI_eq (b := 14) (by omega) (by decide)
      have e82 : q.2 < len → σ_56 82 q.2 = nI (c q.2) := fun z => (k2.1.2.2 q.2 z).1
      have hl := k2.1.2.1
      have zero : ¬ q.2 < len → Ex (YX9_reads, 6, xB0, none) 35 [.ref 81, .int (nI (j + 1)), .int 0] [] (xMs σ_56) (xQ (fun v σ' => RDM len c σ0 σ' v (rdF len c (f + 1) j p (tkS len c e)))) := by
        intro z1
        refine x_iload_n dX9_reads_35 rfl ?_
        refine x_if_eq (tgt := 106) dX9_reads_36 (by decide) (fun c_36 => ?_) (fun c_36 => (absurd rfl c_36))
        refine x_iload_n dX9_reads_106 rfl ?_
        exact s_iret dX9_reads_107 rfl (good z1)
      refine x_aload_n dX9_reads_59 rfl ?_
      refine s_geti (ci := 9) (k := 12) (N := 20) (C := RX9) (T := TX9) dX9_reads_60 lfX9_75 inX9 rfl (by decide) (rfl) rfl ?_
      rw [k2.2.2.2.2.1]
      refine x_if_eq (tgt := 70) dX9_reads_63 (by decide) (fun c_63 => ?_) (fun c_63 => ?_)
      · refine x_iconst (v := 0) dX9_reads_70 (by decide) ?_
        refine x_istore_n dX9_reads_71 (Nat.le_of_ble_eq_true rfl) rfl ?_
        refine x_iload_n dX9_reads_72 rfl ?_
        refine x_if_eq (tgt := 35) dX9_reads_73 (by decide) (fun c_73 => ?_) (fun c_73 => (by first | exact absurd c_73 (by decide) | exact absurd (by decide) c_73))
        first
          | exact more hq ((c59 hq).mp c_95) (fun z => c_101 (j14.mpr (by omega)))
          | exact zero (so_0.mp c_63)
      · refine x_iconst (v := 1) dX9_reads_66 (by decide) ?_
        refine x_goto (tgt := 71) dX9_reads_67 (by decide) ?_
        refine x_istore_n dX9_reads_71 (Nat.le_of_ble_eq_true rfl) rfl ?_
        refine x_iload_n dX9_reads_72 rfl ?_
        refine x_if_eq (tgt := 35) dX9_reads_73 (by decide) (fun c_73 => (by first | exact absurd c_73 (by decide) | exact absurd (by decide) c_73)) (fun c_73 => ?_)
        refine x_aload_n dX9_reads_76 rfl ?_
        refine s_geti (ci := 9) (k := 12) (N := 20) (C := RX9) (T := TX9) dX9_reads_77 lfX9_75 inX9 rfl (by decide) (rfl) rfl ?_
        refine x_iconst (v := 3) dX9_reads_80 (by decide) ?_
        rw [k2.2.2.2.2.1]
        refine x_icmp_ne (tgt := 104) dX9_reads_81 (by decide) (fun c_81 => ?_) (fun c_81 => ?_)
        · refine x_iconst (v := -1) dX9_reads_104 (by decide) ?_
          exact s_iret dX9_reads_105 rfl (by first
            | exact bad (lt c_63) (Or.inl (fun z => c_81 (so_3 z (lt c_63))))
            | exact bad hq (Or.inl (fun z => c_95 ((c59 hq).mpr z)))
            | exact bad hq (Or.inr (Nat.le_of_eq (j14.mp c_101).symm)))
        · refine x_aload_n dX9_reads_84 rfl ?_
          refine s_getr (ci := 9) (k := 0) (N := 20) (C := RX9) (T := TX9) dX9_reads_85 lfX9_7 inX9 rfl (by decide) (rfl) rfl ?_
          refine x_aload_n dX9_reads_88 rfl ?_
          refine s_geti (ci := 9) (k := 13) (N := 20) (C := RX9) (T := TX9) dX9_reads_89 lfX9_65 inX9 rfl (by decide) (rfl) rfl ?_
          have hq := lt c_63
          rw [k2.2.2.1]
          refine s_iald dX9_reads_92 (rfl) (hi := rfl) (hj := by omega) (hn := by decide) ?_
          rw [e82 hq]
          refine x_bipush (v := 59) dX9_reads_93 (by decide) ?_
          refine x_icmp_ne (tgt := 104) dX9_reads_95 (by decide) (fun c_95 => ?_) (fun c_95 => ?_)
          · refine x_iconst (v := -1) dX9_reads_104 (by decide) ?_
            exact s_iret dX9_reads_105 rfl (by first
              | exact bad (lt c_63) (Or.inl (fun z => c_81 (so_3 z (lt c_63))))
              | exact bad hq (Or.inl (fun z => c_95 ((c59 hq).mpr z)))
              | exact bad hq (Or.inr (Nat.le_of_eq (j14.mp c_101).symm)))
          · refine x_iload_n dX9_reads_98 rfl ?_
            refine x_bipush (v := 14) dX9_reads_99 (by decide) ?_
            refine x_icmp_ne (tgt := 35) dX9_reads_101 (by decide) (fun c_101 => ?_) (fun c_101 => ?_)
            · first
                | exact more hq ((c59 hq).mp c_95) (fun z => c_101 (j14.mpr (by omega)))
                | exact zero (so_0.mp c_63)
            · refine x_iconst (v := -1) dX9_reads_104 (by decide) ?_
              exact s_iret dX9_reads_105 rfl (by first
                | exact bad (lt c_63) (Or.inl (fun z => c_81 (so_3 z (lt c_63))))
                | exact bad hq (Or.inl (fun z => c_95 ((c59 hq).mpr z)))
                | exact bad hq (Or.inr (Nat.le_of_eq (j14.mp c_101).symm)))
set_option maxRecDepth 100000 in
theorem k_reads (σ : Sg) {len n : Nat} {c : Nat → Nat} (hT : TM σ len c) (hn : σ 83 0 = nI n) (hn8 : n ≤ 8) : Cm 6 YX9_reads [.ref 81] σ (fun v σ' => RDM len c σ σ' v (rdA len c (plM n σ 83))) := by
  refine Cm_of (by decide +kernel) (Nat.le_of_ble_eq_true rfl) ?_
  refine x_iconst (v := 0) dX9_reads_0 (by decide) ?_
  refine x_istore_n dX9_reads_1 (Nat.le_of_ble_eq_true rfl) rfl ?_
  have h := l_mrd (d := 6) (R := xQ (fun v σ' => RDM len c σ σ' v (rdA len c (plM n σ 83)))) σ (fun W hW _ => ?_) 43 0 (σ 84) (by omega) (fun i hi => by omega) (fun i _ => rfl)
  · rw [sw_id] at h
    exact h
  · simp only [Nat.zero_add] at hW
    refine x_aload_n dX9_reads_26 rfl ?_
    refine x_iconst (v := 0) dX9_reads_27 (by decide) ?_
    refine s_puti (ci := 9) (k := 11) (N := 20) (C := RX9) (T := TX9) (ty0 := tyX9) dX9_reads_28 lfX9_58 inX9 tyX9_ok nmX9 rfl (by decide) rfl rfl (rfl) rfl ?_
    refine xname (fun σ_28 e_28 => ?_)
    refine x_iconst (v := 0) dX9_reads_31 (by decide) ?_
    refine x_istore_n dX9_reads_32 (Nat.le_of_ble_eq_true rfl) rfl ?_
    refine x_iconst (v := 1) dX9_reads_33 (by decide) ?_
    refine x_istore_n dX9_reads_34 (Nat.le_of_ble_eq_true rfl) rfl ?_
    have f0 : F4 σ σ_28 := by rw [e_28]; exact (F4_84 W).tr (FK.f4 (FK_sg (by omega)))
    have e84 : ∀ i, i < 43 → σ_28 84 i = σ 83 i := fun i hi => by rw [e_28, sg_n _ _ _ (by decide), sw_s]; exact hW i hi
    refine l_rloop σ 14 0 0 (plM n σ 83) σ_28 rfl (TM_F4 hT f0) (Nat.zero_le _) (by rw [e_28, sg_s]; rfl) ⟨by rw [e84 0 (by decide)]; exact hn, hn8, ?_⟩ f0 (by decide)
    show plM n σ_28 84 = plM n σ 83
    unfold plM
    rw [e84 1 (by decide), e84 2 (by decide), tr_ext (f := fun i => σ_28 84 (3 + i)) (fun i hi => e84 (3 + i) (by omega)), tr_ext (f := fun i => σ_28 84 (11 + i)) (fun i hi => e84 (11 + i) (by omega)), tr_ext (f := fun i => σ_28 84 (19 + i)) (fun i hi => e84 (19 + i) (by omega)), tr_ext (f := fun i => σ_28 84 (27 + i)) (fun i hi => e84 (27 + i) (by omega)), tr_ext (f := fun i => σ_28 84 (35 + i)) (fun i hi => e84 (35 + i) (by omega))]
