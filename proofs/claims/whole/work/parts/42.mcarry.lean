/-! ===== RainBallotModel's calls, 3: carry, reach ===== -/

theorem cl_st (q : Nat → Bool) {n s : Nat} (hn8 : n ≤ 8) (hs : s < 8) : stF (fun i => decide (¬ i = s) && q i) n = clF (stF q n) s := by
  apply Nat.eq_of_testBit_eq
  intro i
  unfold clF
  rw [stF_bit, Nat.testBit_and, stF_bit]
  have h : ∀ s, s < 8 → ∀ i, i < 8 → (255 - 2 ^ s).testBit i = decide (¬ i = s) := by decide +kernel
  by_cases hi : i < n
  · rw [h s hs i (by omega), decide_eq_true hi, Bool.true_and, Bool.true_and, Bool.and_comm]
  · rw [decide_eq_false hi]
    rfl
theorem cyS_rel (p : PL) (o : MO) (s al : Nat) : ∀ k, ((cyS p o s al k).1 = -1 ∧ (cyS p o s al k).2 = 9) ∨ ∃ h, h < k ∧ (cyS p o s al k).1 = nI h ∧ (cyS p o s al k).2 = onF h 8 := by
  intro k
  induction k with
  | zero => exact Or.inl ⟨rfl, rfl⟩
  | succ k ih =>
    unfold cyS
    split
    · exact Or.inr ⟨k, by omega, rfl, rfl⟩
    · rcases ih with h | ⟨h, h1, h2, h3⟩
      · exact Or.inl h
      · exact Or.inr ⟨h, by omega, h2, h3⟩
theorem cyS_top (p : PL) (o : MO) (s al : Nat) : ∀ j, cyS p o s al (al + 1 + j) = cyS p o s al (al + 1) := by
  intro j
  induction j with
  | zero => rfl
  | succ j ih =>
    rw [← ih]
    refine if_neg (fun z => ?_)
    have h1 : (al + 1 + j) &&& al = al + 1 + j := z.1.1
    have h2 : (al + 1 + j) &&& al ≤ al := Nat.and_le_right
    rw [h1] at h2
    omega
def myF (kd : FN) (s i : Nat) : Bool := decide (¬ i = s) && vbF kd i
set_option maxRecDepth 100000 in
set_option maxHeartbeats 1000000 in
theorem k_mcarry (σ : Sg) {n k : Nat} (hn : σ 83 0 = nI n) (hn8 : n ≤ 8) (hb : NB σ) (hk : k < n) : Cm 12 YX9_carry [.ref 81, .int (nI k)] σ (fun v σ' => v = some (.int (cyF (plM n σ 83) (moS n σ) k)) ∧ fM σ σ') := by
  refine Cm_of (by decide +kernel) (Nat.le_of_ble_eq_true rfl) ?_
  have hal : clF (stF (vbF (plM n σ 83).2.2.2.1) n) k < 2 ^ n := Nat.lt_of_le_of_lt Nat.and_le_left (stF_lt _ n)
  have hp256 : 2 ^ n ≤ 256 := Nat.pow_le_pow_right (by decide) hn8
  have ecy : ∀ x, x = cyS (plM n σ 83) (moS n σ) k (clF (stF (vbF (plM n σ 83).2.2.2.1) n) k) (clF (stF (vbF (plM n σ 83).2.2.2.1) n) k + 1) → x.1 = cyF (plM n σ 83) (moS n σ) k := fun x h => by
    rw [h, ← cyS_top _ _ _ _ (2 ^ n - (clF (stF (vbF (plM n σ 83).2.2.2.1) n) k + 1)), show clF (stF (vbF (plM n σ 83).2.2.2.1) n) k + 1 + (2 ^ n - (clF (stF (vbF (plM n σ 83).2.2.2.1) n) k + 1)) = 2 ^ n by omega]
    rfl
  have est : stF (myF (plM n σ 83).2.2.2.1 k) n = clF (stF (vbF (plM n σ 83).2.2.2.1) n) k := cl_st _ hn8 (by omega)
  have loop : ∀ (j h : Nat) (τ : Sg), h + j = clF (stF (vbF (plM n σ 83).2.2.2.1) n) k + 1 → (τ 81 18 = nI k ∧ (∀ i, i ≠ 17 → i ≠ 18 → τ 81 i = σ 81 i) ∧ ∀ c, c ≠ 81 → c ≠ 90 → τ c = σ c) → Ex (YX9_carry, 12, xB0, none) 68 [.ref 81, .int (nI k), .int (nI (clF (stF (vbF (plM n σ 83).2.2.2.1) n) k)), .int (cyS (plM n σ 83) (moS n σ) k (clF (stF (vbF (plM n σ 83).2.2.2.1) n) k) h).1, .int (nI h)] [] (xMs τ) (xQ (fun v σ' => v = some (.int (cyF (plM n σ 83) (moS n σ) k)) ∧ fM σ σ')) := by
    generalize clF (stF (vbF (plM n σ 83).2.2.2.1) n) k = al at hal ecy
    intro j
    induction j with
    | zero =>
      intro h τ hh hI
      obtain rfl : h = al + 1 := by omega
      refine x_iload dX9_carry_68 rfl ?_
      refine x_iload_n dX9_carry_70 rfl ?_
      refine x_icmp_gt (tgt := 127) dX9_carry_71 (by decide) (fun c_71 => ?_) (fun c_71 => (absurd (nI_lt (by omega) (by omega)) c_71))
      refine x_aload_n dX9_carry_127 rfl ?_
      refine x_iconst (v := 0) dX9_carry_128 (by decide) ?_
      refine s_puti (ci := 9) (k := 17) (N := 20) (C := RX9) (T := TX9) (ty0 := tyX9) dX9_carry_129 lfX9_117 inX9 tyX9_ok nmX9 rfl (by decide) rfl rfl (rfl) rfl ?_
      refine xname (fun σ_129 e_129 => ?_)
      refine x_aload_n dX9_carry_132 rfl ?_
      refine x_iconst (v := -1) dX9_carry_133 (by decide) ?_
      refine s_puti (ci := 9) (k := 18) (N := 20) (C := RX9) (T := TX9) (ty0 := tyX9) dX9_carry_134 lfX9_38 inX9 tyX9_ok nmX9 rfl (by decide) rfl rfl (rfl) rfl ?_
      refine xname (fun σ_134 e_134 => ?_)
      refine x_iload_n dX9_carry_137 rfl ?_
      refine s_iret dX9_carry_138 rfl ?_
      rw [ecy _ rfl]
      have e : ∀ i, σ_134 81 i = σ 81 i := fun i => by
        by_cases i18 : i = 18
        · rw [i18, e_134, sg_s, hb.2.2]
        · rw [e_134, sg_k _ _ _ i18]
          by_cases i17 : i = 17
          · rw [i17, e_129, sg_s, hb.2.1]; rfl
          · rw [e_129, sg_k _ _ _ i17]; exact hI.2.1 i i17 i18
      exact ⟨rfl, fun i hi => by rw [e_134, sg_n _ _ _ (by decide), e_129, sg_n _ _ _ (by decide), hI.2.2 85 (by decide) (by decide)], e, fun c a b d _ => by rw [e_134, sg_n _ _ _ a, e_129, sg_n _ _ _ a]; exact hI.2.2 c a d⟩
    | succ j ih =>
      intro h τ hh hI
      have h256 : h < 256 := by omega
      have hn' : τ 83 0 = nI n := by rw [hI.2.2 83 (by decide) (by decide)]; exact hn
      have ep : plM n τ 83 = plM n σ 83 := plM_fr (hI.2.2 83 (by decide) (by decide))
      have em : moS n τ = moS n σ := by unfold moS; rw [hI.2.2 85 (by decide) (by decide)]
      have step : ∀ (x : Int32) (τ2 : Sg), x = (cyS (plM n σ 83) (moS n σ) k al (h + 1)).1 → (τ2 81 18 = nI k ∧ (∀ i, i ≠ 17 → i ≠ 18 → τ2 81 i = σ 81 i) ∧ ∀ c, c ≠ 81 → c ≠ 90 → τ2 c = σ c) → Ex (YX9_carry, 12, xB0, none) 68 [.ref 81, .int (nI k), .int (nI al), .int x, .int (nI (h + 1))] [] (xMs τ2) (xQ (fun v σ' => v = some (.int (cyF (plM n σ 83) (moS n σ) k)) ∧ fM σ σ')) := fun x τ2 hx hf => by
        subst hx
        exact ih (h + 1) τ2 (by omega) hf
      have same : ¬ ((h &&& al = h ∧ onF h 8 < (cyS (plM n σ 83) (moS n σ) k al h).2) ∧ caF (plM n σ 83) (moS n σ) 0 h (nI k) = nI k) → (cyS (plM n σ 83) (moS n σ) k al h).1 = (cyS (plM n σ 83) (moS n σ) k al (h + 1)).1 := fun z => by rw [show cyS (plM n σ 83) (moS n σ) k al (h + 1) = _ from if_neg z]
      have take : (h &&& al = h ∧ onF h 8 < (cyS (plM n σ 83) (moS n σ) k al h).2) → Ex (YX9_carry, 12, xB0, none) 100 [.ref 81, .int (nI k), .int (nI al), .int (cyS (plM n σ 83) (moS n σ) k al h).1, .int (nI h)] [] (xMs τ) (xQ (fun v σ' => v = some (.int (cyF (plM n σ 83) (moS n σ) k)) ∧ fM σ σ')) := by
        intro hc
        refine x_aload_n dX9_carry_100 rfl ?_
        refine x_iload dX9_carry_101 rfl ?_
        refine s_puti (ci := 9) (k := 17) (N := 20) (C := RX9) (T := TX9) (ty0 := tyX9) dX9_carry_103 lfX9_117 inX9 tyX9_ok nmX9 rfl (by decide) rfl rfl (rfl) rfl ?_
        refine xname (fun σ_103 e_103 => ?_)
        refine x_aload_n dX9_carry_106 rfl ?_
        refine s_callV dX9_carry_107 (k_carried σ_103 (n := n) (home := 0) (turned := h) (toward := nI k) (by rw [e_103, sg_n _ _ _ (by decide)]; exact hn') hn8 (by decide) h256 (Or.inr (inb_nI hk (by omega))) (by rw [e_103, sg_k _ _ _ (by decide), hI.2.1 16 (by decide) (by decide)]; exact hb.1) (by rw [e_103, sg_s]) (by rw [e_103, sg_k _ _ _ (by decide)]; exact hI.1)) rfl w_X9_carried lmX9_138 im_X9_carried se_X9_carried rfl (rfl) rfl (Nat.le_of_ble_eq_true rfl) rfl (by decide) (fun v_107 σ_107 h_107 => ?_)
        obtain ⟨rfl, cf⟩ := h_107
        have ep2 : plM n σ_103 83 = plM n σ 83 := by rw [plM_fr (by rw [e_103, sg_n _ _ _ (by decide)]), ep]
        have em2 : moS n σ_103 = moS n σ := by rw [← em]; unfold moS; rw [e_103, sg_n _ _ _ (by decide)]
        rw [ep2, em2]
        have hf2 : σ_107 81 18 = nI k ∧ (∀ i, i ≠ 17 → i ≠ 18 → σ_107 81 i = σ 81 i) ∧ ∀ c, c ≠ 81 → c ≠ 90 → σ_107 c = σ c := ⟨by rw [cf 81 (by decide), e_103, sg_k _ _ _ (by decide)]; exact hI.1, fun i a b => by rw [cf 81 (by decide), e_103, sg_k _ _ _ a]; exact hI.2.1 i a b, fun c a b => by rw [cf c b, e_103, sg_n _ _ _ a]; exact hI.2.2 c a b⟩
        refine x_iload_n dX9_carry_110 rfl ?_
        refine x_icmp_ne (tgt := 119) dX9_carry_111 (by decide) (fun c_111 => ?_) (fun c_111 => ?_)
        · refine x_iload_n dX9_carry_119 rfl ?_
          refine x_istore_n dX9_carry_120 (Nat.le_of_ble_eq_true rfl) rfl ?_
          refine s_iinc dX9_carry_121 rfl (Nat.le_of_ble_eq_true rfl) rfl ?_
          refine x_goto (tgt := 68) dX9_carry_124 (by decide) ?_
          first
            | exact step _ _ (Eq.symm (congrArg Prod.fst (if_pos ⟨hc, c_111⟩))) hf2
            | exact step _ _ (same (fun z => c_111 z.2)) hf2
        · refine x_iload dX9_carry_114 rfl ?_
          refine x_goto (tgt := 120) dX9_carry_116 (by decide) ?_
          refine x_istore_n dX9_carry_120 (Nat.le_of_ble_eq_true rfl) rfl ?_
          refine s_iinc dX9_carry_121 rfl (Nat.le_of_ble_eq_true rfl) rfl ?_
          refine x_goto (tgt := 68) dX9_carry_124 (by decide) ?_
          first
            | exact step _ _ (Eq.symm (congrArg Prod.fst (if_pos ⟨hc, c_111⟩))) hf2
            | exact step _ _ (same (fun z => c_111 z.2)) hf2
      have tk1 : h &&& al = h → (cyS (plM n σ 83) (moS n σ) k al h).1 = -1 → Ex (YX9_carry, 12, xB0, none) 100 [.ref 81, .int (nI k), .int (nI al), .int (cyS (plM n σ 83) (moS n σ) k al h).1, .int (nI h)] [] (xMs τ) (xQ (fun v σ' => v = some (.int (cyF (plM n σ 83) (moS n σ) k)) ∧ fM σ σ')) := fun h1 h2 => take ⟨h1, by
        rcases cyS_rel (plM n σ 83) (moS n σ) k al h with z | ⟨g, hg, e1, e2⟩
        · rw [z.2]; have := onF_le h 8; omega
        · rw [e1] at h2
          have := nI_pos' (n := g) (by omega)
          rw [h2] at this
          exact absurd this (by decide)⟩
      have tk2 : h &&& al = h → ∀ g : Nat, (cyS (plM n σ 83) (moS n σ) k al h).2 = onF g 8 → nI (onF h 8) < nI (onF g 8) → Ex (YX9_carry, 12, xB0, none) 100 [.ref 81, .int (nI k), .int (nI al), .int (cyS (plM n σ 83) (moS n σ) k al h).1, .int (nI h)] [] (xMs τ) (xQ (fun v σ' => v = some (.int (cyF (plM n σ 83) (moS n σ) k)) ∧ fM σ σ')) := fun h1 g h2 h3 => take ⟨h1, by
        rw [h2]
        exact (nI_ltI (by have := onF_le h 8; omega) (by have := onF_le g 8; omega)).mp h3⟩
      have sm2 : ∀ g : Nat, (cyS (plM n σ 83) (moS n σ) k al h).2 = onF g 8 → nI (onF g 8) ≤ nI (onF h 8) → (cyS (plM n σ 83) (moS n σ) k al h).1 = (cyS (plM n σ 83) (moS n σ) k al (h + 1)).1 := fun g h2 h3 => same (fun z => by
        have z2 := z.1.2
        rw [h2] at z2
        exact absurd h3 (nI_ge z2 (by have := onF_le g 8; omega)))
      refine x_iload dX9_carry_68 rfl ?_
      refine x_iload_n dX9_carry_70 rfl ?_
      refine x_icmp_gt (tgt := 127) dX9_carry_71 (by decide) (fun c_71 => (absurd c_71 (nI_nlt (by omega) (by omega)))) (fun c_71 => ?_)
      refine x_iload dX9_carry_74 rfl ?_
      refine x_iload_n dX9_carry_76 rfl ?_
      refine x_iconst (v := -1) dX9_carry_77 (by decide) ?_
      refine x_ixor dX9_carry_78 ?_
      refine x_iand dX9_carry_79 ?_
      refine x_if_ne (tgt := 121) dX9_carry_80 (by decide) (fun c_80 => ?_) (fun c_80 => ?_)
      · refine s_iinc dX9_carry_121 rfl (Nat.le_of_ble_eq_true rfl) rfl ?_
        refine x_goto (tgt := 68) dX9_carry_124 (by decide) ?_
        first
          | exact step _ _ (same (fun z => c_80 ((sub_iff h256).mpr z.1.1))) hI
          | exact step _ _ (sm2 g e2 c_97) hI
      · refine x_iload_n dX9_carry_83 rfl ?_
        refine x_iconst (v := -1) dX9_carry_84 (by decide) ?_
        refine x_icmp_eq (tgt := 100) dX9_carry_85 (by decide) (fun c_85 => ?_) (fun c_85 => ?_)
        · first
            | exact tk1 ((sub_iff h256).mp c_80) c_85
            | exact tk2 ((sub_iff h256).mp c_80) g e2 (Int32.not_le.mp c_97)
        · skip
          refine x_iload dX9_carry_88 rfl ?_
          obtain ⟨g, hg, e1, e2⟩ := (cyS_rel (plM n σ 83) (moS n σ) k al h).resolve_left (fun z => c_85 z.1)
          refine s_callS dX9_carry_90 (k_ones τ h256) rfl w_X9_ones lmX9_154 st_X9_ones rfl (Nat.le_of_ble_eq_true rfl) rfl (by decide) (fun v_90 σ_90 h_90 => ?_)
          obtain ⟨rfl, z_90⟩ := h_90
          have z_90 := z_90.symm
          subst z_90
          refine x_iload_n dX9_carry_93 rfl ?_
          refine s_callS dX9_carry_94 ((show Cm 0 YX9_ones [.int (cyS (plM n σ 83) (moS n σ) k al h).1] τ (fun v σ' => v = some (.int (nI (onF g 8))) ∧ σ' = τ) by rw [e1]; exact k_ones τ (by omega))) rfl w_X9_ones lmX9_154 st_X9_ones rfl (Nat.le_of_ble_eq_true rfl) rfl (by decide) (fun v_94 σ_94 h_94 => ?_)
          obtain ⟨rfl, z_94⟩ := h_94
          have z_94 := z_94.symm
          subst z_94
          refine x_icmp_ge (tgt := 121) dX9_carry_97 (by decide) (fun c_97 => ?_) (fun c_97 => ?_)
          · refine s_iinc dX9_carry_121 rfl (Nat.le_of_ble_eq_true rfl) rfl ?_
            refine x_goto (tgt := 68) dX9_carry_124 (by decide) ?_
            first
              | exact step _ _ (same (fun z => c_80 ((sub_iff h256).mpr z.1.1))) hI
              | exact step _ _ (sm2 g e2 c_97) hI
          · first
              | exact tk1 ((sub_iff h256).mp c_80) c_85
              | exact tk2 ((sub_iff h256).mp c_80) g e2 (Int32.not_le.mp c_97)
  have loop1 : ∀ (j h : Nat), h + j = n → Ex (YX9_carry, 12, xB0, none) 15 [.ref 81, .int (nI k), .int (nI (stF (myF (plM n σ 83).2.2.2.1 k) h)), .int (nI h), .null] [] (xMs σ) (xQ (fun v σ' => v = some (.int (cyF (plM n σ 83) (moS n σ) k)) ∧ fM σ σ')) := by
    intro j
    induction j with
    | zero =>
      intro h hh
      obtain rfl : h = n := by omega
      refine x_iload_n dX9_carry_15 rfl ?_
      refine x_aload_n dX9_carry_16 rfl ?_
      refine s_getr (ci := 9) (k := 2) (N := 20) (C := RX9) (T := TX9) dX9_carry_17 lfX9_13 inX9 rfl (by decide) (rfl) rfl ?_
      refine x_iconst (v := 0) dX9_carry_20 (by decide) ?_
      refine s_iald dX9_carry_21 (rfl) (j := 0) (hi := by decide) (hj := by omega) (hn := by decide) ?_
      refine x_icmp_ge (tgt := 58) dX9_carry_22 (by decide) (fun c_22 => ?_) (fun c_22 => (absurd (by rw [hn]; exact Int32.le_refl _) c_22))
      refine x_iconst (v := -1) dX9_carry_58 (by decide) ?_
      refine x_istore_n dX9_carry_59 (Nat.le_of_ble_eq_true rfl) rfl ?_
      refine x_aload_n dX9_carry_60 rfl ?_
      refine x_iload_n dX9_carry_61 rfl ?_
      refine s_puti (ci := 9) (k := 18) (N := 20) (C := RX9) (T := TX9) (ty0 := tyX9) dX9_carry_62 lfX9_38 inX9 tyX9_ok nmX9 rfl (by decide) rfl rfl (rfl) rfl ?_
      refine xname (fun σ_62 e_62 => ?_)
      refine x_iconst (v := 0) dX9_carry_65 (by decide) ?_
      refine x_istore dX9_carry_66 (Nat.le_of_ble_eq_true rfl) rfl ?_
      rw [est]
      exact loop (clF (stF (vbF (plM h σ 83).2.2.2.1) h) k + 1) 0 σ_62 (by omega) ⟨by rw [e_62, sg_s], fun i _ b => by rw [e_62, sg_k _ _ _ b], fun c a _ => by rw [e_62, sg_n _ _ _ a]⟩
    | succ j ih =>
      intro h hh
      have hkn : h < n := by omega
      have ekd : (plM n σ 83).2.2.2.1 h = σ 83 (3 + h) := tr_i (f := fun i => σ 83 (3 + i)) hkn
      have step : ∀ x : Int32, x = nI (stF (myF (plM n σ 83).2.2.2.1 k) (h + 1)) → Ex (YX9_carry, 12, xB0, none) 15 [.ref 81, .int (nI k), .int x, .int (nI (h + 1)), .null] [] (xMs σ) (xQ (fun v σ' => v = some (.int (cyF (plM n σ 83) (moS n σ) k)) ∧ fM σ σ')) := fun x hx => by
        subst hx
        exact ih (h + 1) (by omega)
      refine x_iload_n dX9_carry_15 rfl ?_
      refine x_aload_n dX9_carry_16 rfl ?_
      refine s_getr (ci := 9) (k := 2) (N := 20) (C := RX9) (T := TX9) dX9_carry_17 lfX9_13 inX9 rfl (by decide) (rfl) rfl ?_
      refine x_iconst (v := 0) dX9_carry_20 (by decide) ?_
      refine s_iald dX9_carry_21 (rfl) (j := 0) (hi := by decide) (hj := by omega) (hn := by decide) ?_
      refine x_icmp_ge (tgt := 58) dX9_carry_22 (by decide) (fun c_22 => (absurd c_22 (by rw [hn]; exact nI_ge hkn (by omega)))) (fun c_22 => ?_)
      refine x_iload_n dX9_carry_25 rfl ?_
      refine x_iload_n dX9_carry_26 rfl ?_
      refine x_iload_n dX9_carry_27 rfl ?_
      refine x_icmp_eq (tgt := 49) dX9_carry_28 (by decide) (fun c_28 => ?_) (fun c_28 => ?_)
      · refine x_iconst (v := 0) dX9_carry_49 (by decide) ?_
        refine x_ior dX9_carry_50 ?_
        refine x_istore_n dX9_carry_51 (Nat.le_of_ble_eq_true rfl) rfl ?_
        refine s_iinc dX9_carry_52 rfl (Nat.le_of_ble_eq_true rfl) rfl ?_
        refine x_goto (tgt := 15) dX9_carry_55 (by decide) ?_
        refine step _ ?_
        first
          | (rw [Int32.or_zero]
             refine stF_n (fun z => ?_)
             unfold myF at z
             rw [show decide (¬ h = k) = false from decide_eq_false (fun q => q ((nI_eq (by omega) (by omega)).mp c_28))] at z
             exact Bool.noConfusion z)
          | (rw [Int32.or_zero]
             refine stF_n (fun z => ?_)
             unfold myF vbF at z
             rw [ekd, show decide (¬ σ 83 (3 + h) = 2) = false from decide_eq_false (fun q => q c_40), Bool.and_false] at z
             exact Bool.noConfusion z)
          | (refine stF_s (by omega) ?_
             have q1 : ¬ h = k := fun q => c_28 (congrArg nI q)
             have q2 : ¬ (plM n σ 83).2.2.2.1 h = 2 := fun q => c_40 (ekd.symm.trans q)
             unfold myF vbF
             rw [decide_eq_true q1, decide_eq_true q2]
             rfl)
      · refine x_aload_n dX9_carry_31 rfl ?_
        refine s_getr (ci := 9) (k := 2) (N := 20) (C := RX9) (T := TX9) dX9_carry_32 lfX9_13 inX9 rfl (by decide) (rfl) rfl ?_
        refine x_iconst (v := 3) dX9_carry_35 (by decide) ?_
        refine x_iload_n dX9_carry_36 rfl ?_
        refine x_iadd dX9_carry_37 ?_
        refine s_iald dX9_carry_38 (rfl) (hi := nI_add 3 h) (hj := by omega) (hn := by decide) ?_
        refine x_iconst (v := 2) dX9_carry_39 (by decide) ?_
        refine x_icmp_eq (tgt := 49) dX9_carry_40 (by decide) (fun c_40 => ?_) (fun c_40 => ?_)
        · refine x_iconst (v := 0) dX9_carry_49 (by decide) ?_
          refine x_ior dX9_carry_50 ?_
          refine x_istore_n dX9_carry_51 (Nat.le_of_ble_eq_true rfl) rfl ?_
          refine s_iinc dX9_carry_52 rfl (Nat.le_of_ble_eq_true rfl) rfl ?_
          refine x_goto (tgt := 15) dX9_carry_55 (by decide) ?_
          refine step _ ?_
          first
            | (rw [Int32.or_zero]
               refine stF_n (fun z => ?_)
               unfold myF at z
               rw [show decide (¬ h = k) = false from decide_eq_false (fun q => q ((nI_eq (by omega) (by omega)).mp c_28))] at z
               exact Bool.noConfusion z)
            | (rw [Int32.or_zero]
               refine stF_n (fun z => ?_)
               unfold myF vbF at z
               rw [ekd, show decide (¬ σ 83 (3 + h) = 2) = false from decide_eq_false (fun q => q c_40), Bool.and_false] at z
               exact Bool.noConfusion z)
            | (refine stF_s (by omega) ?_
               have q1 : ¬ h = k := fun q => c_28 (congrArg nI q)
               have q2 : ¬ (plM n σ 83).2.2.2.1 h = 2 := fun q => c_40 (ekd.symm.trans q)
               unfold myF vbF
               rw [decide_eq_true q1, decide_eq_true q2]
               rfl)
        · refine x_iconst (v := 1) dX9_carry_43 (by decide) ?_
          refine x_iload_n dX9_carry_44 rfl ?_
          refine x_ishl dX9_carry_45 ?_
          refine x_goto (tgt := 50) dX9_carry_46 (by decide) ?_
          refine x_ior dX9_carry_50 ?_
          refine x_istore_n dX9_carry_51 (Nat.le_of_ble_eq_true rfl) rfl ?_
          refine s_iinc dX9_carry_52 rfl (Nat.le_of_ble_eq_true rfl) rfl ?_
          refine x_goto (tgt := 15) dX9_carry_55 (by decide) ?_
          refine step _ ?_
          first
            | (rw [Int32.or_zero]
               refine stF_n (fun z => ?_)
               unfold myF at z
               rw [show decide (¬ h = k) = false from decide_eq_false (fun q => q ((nI_eq (by omega) (by omega)).mp c_28))] at z
               exact Bool.noConfusion z)
            | (rw [Int32.or_zero]
               refine stF_n (fun z => ?_)
               unfold myF vbF at z
               rw [ekd, show decide (¬ σ 83 (3 + h) = 2) = false from decide_eq_false (fun q => q c_40), Bool.and_false] at z
               exact Bool.noConfusion z)
            | (refine stF_s (by omega) ?_
               have q1 : ¬ h = k := fun q => c_28 (congrArg nI q)
               have q2 : ¬ (plM n σ 83).2.2.2.1 h = 2 := fun q => c_40 (ekd.symm.trans q)
               unfold myF vbF
               rw [decide_eq_true q1, decide_eq_true q2]
               rfl)
  refine x_aload_n dX9_carry_0 rfl ?_
  refine x_iload_n dX9_carry_1 rfl ?_
  refine s_callV dX9_carry_2 (k_isStreet σ hn hn8 _) rfl w_X9_isStreet lmX9_129 im_X9_isStreet se_X9_isStreet rfl (rfl) rfl (Nat.le_of_ble_eq_true rfl) rfl (by decide) (fun v_2 σ_2 h_2 => ?_)
  obtain ⟨rfl, z_2⟩ := h_2
  have z_2 := z_2.symm
  subst z_2
  refine x_if_ne (tgt := 11) dX9_carry_5 (by decide) (fun c_5 => ?_) (fun c_5 => (absurd c_5 (by rw [inb_nI hk (by omega)]; decide)))
  refine x_iconst (v := 0) dX9_carry_11 (by decide) ?_
  refine x_istore_n dX9_carry_12 (Nat.le_of_ble_eq_true rfl) rfl ?_
  refine x_iconst (v := 0) dX9_carry_13 (by decide) ?_
  refine x_istore_n dX9_carry_14 (Nat.le_of_ble_eq_true rfl) rfl ?_
  exact loop1 n 0 (by omega)
theorem st_sh {q : Nat → Bool} {k : Nat} (hk : k < 31) : nI (stF q k) ||| (bI (q k) <<< (nI k &&& 31)) = nI (stF q (k + 1)) := by
  cases h : q k with
  | true => exact stF_s hk h
  | false =>
    rw [show bI false = 0 from rfl, Int32.zero_shiftLeft, Int32.or_zero]
    exact stF_n (by rw [h]; decide)
set_option maxRecDepth 100000 in
set_option maxHeartbeats 1000000 in
theorem k_mreach (σ : Sg) {n k : Nat} (hn : σ 83 0 = nI n) (hp : Wp (plM n σ 83)) (ho : Wm n (moS n σ)) (hk : k < n) : Cm 12 YX9_reach [.ref 81, .int (nI k)] σ (fun v σ' => v = some (.int (nI (rcF (plM n σ 83) (moS n σ).1 k))) ∧ fM σ σ') := by
  refine Cm_of (by decide +kernel) (Nat.le_of_ble_eq_true rfl) ?_
  have hn8 : n ≤ 8 := hp.1
  have loop : ∀ (j h : Nat) (τ : Sg), h + j = n → ((∀ i, i < 18 → τ 85 i = σ 85 i) ∧ (∀ i, i < 18 → τ 91 i = σ 85 i) ∧ ∀ c, c ≠ 85 → c ≠ 91 → τ c = σ c) → Ex (YX9_reach, 12, xB0, none) 19 [.ref 81, .int (nI k), .int (nI (stF (fun a => (flA (plM n σ 83) (nI a) (moS n σ).1).1.testBit k) h)), .int (nI h)] [] (xMs τ) (xQ (fun v σ' => v = some (.int (nI (rcF (plM n σ 83) (moS n σ).1 k))) ∧ fM σ σ')) := by
    intro j
    induction j with
    | zero =>
      intro h τ hh hI
      obtain rfl : h = n := by omega
      have hn' : τ 83 0 = nI h := by rw [hI.2.2 83 (by decide) (by decide)]; exact hn
      refine x_iload_n dX9_reach_19 rfl ?_
      refine x_aload_n dX9_reach_20 rfl ?_
      refine s_getr (ci := 9) (k := 2) (N := 20) (C := RX9) (T := TX9) dX9_reach_21 lfX9_13 inX9 rfl (by decide) (rfl) rfl ?_
      refine x_iconst (v := 0) dX9_reach_24 (by decide) ?_
      refine s_iald dX9_reach_25 (rfl) (j := 0) (hi := by decide) (hj := by omega) (hn := by decide) ?_
      refine x_icmp_ge (tgt := 53) dX9_reach_26 (by decide) (fun c_26 => ?_) (fun c_26 => (absurd (by rw [hn']; exact Int32.le_refl _) c_26))
      refine x_iload_n dX9_reach_53 rfl ?_
      exact s_iret dX9_reach_54 rfl (⟨rfl, hI.1, fun i => by rw [hI.2.2 81 (by decide) (by decide)], fun c _ b _ d => hI.2.2 c b d⟩)
    | succ j ih =>
      intro h τ hh hI
      have hkn : h < n := by omega
      have hn' : τ 83 0 = nI n := by rw [hI.2.2 83 (by decide) (by decide)]; exact hn
      have ep : plM n τ 83 = plM n σ 83 := plM_fr (hI.2.2 83 (by decide) (by decide))
      have em : moS n τ = moS n σ := moS_fr hI.1 hn8
      have bb := bz_bit (a := (flA (plM n σ 83) (nI h) (moS n σ).1).1) (k := k) (Nat.lt_trans (flA_lt (p := plM n σ 83) hn8) (by decide)) (by omega)
      refine x_iload_n dX9_reach_19 rfl ?_
      refine x_aload_n dX9_reach_20 rfl ?_
      refine s_getr (ci := 9) (k := 2) (N := 20) (C := RX9) (T := TX9) dX9_reach_21 lfX9_13 inX9 rfl (by decide) (rfl) rfl ?_
      refine x_iconst (v := 0) dX9_reach_24 (by decide) ?_
      refine s_iald dX9_reach_25 (rfl) (j := 0) (hi := by decide) (hj := by omega) (hn := by decide) ?_
      refine x_icmp_ge (tgt := 53) dX9_reach_26 (by decide) (fun c_26 => (absurd c_26 (by rw [hn']; exact nI_ge hkn (by omega)))) (fun c_26 => ?_)
      refine x_iload_n dX9_reach_29 rfl ?_
      refine x_aload_n dX9_reach_30 rfl ?_
      refine x_iload_n dX9_reach_31 rfl ?_
      refine s_callV dX9_reach_32 (k_falls τ (s := nI h) hn' (by rw [ep]; exact hp) (by rw [em]; exact ho.1) (Or.inr ⟨h, hkn, rfl⟩)) rfl w_X9_falls lmX9_132 im_X9_falls se_X9_falls rfl (rfl) rfl (Nat.le_of_ble_eq_true rfl) rfl (by decide) (fun v_32 σ_32 h_32 => ?_)
      obtain ⟨rfl, W, rfl, hW, hO⟩ := h_32
      rw [ep, em]
      refine x_iload_n dX9_reach_35 rfl ?_
      refine x_ishr dX9_reach_36 ?_
      refine x_iconst (v := 1) dX9_reach_37 (by decide) ?_
      refine x_iand dX9_reach_38 ?_
      refine x_iload_n dX9_reach_39 rfl ?_
      rw [bb]
      refine x_ishl dX9_reach_40 ?_
      refine x_ior dX9_reach_41 ?_
      rw [show nI (stF (fun a => (flA (plM n σ 83) (nI a) (moS n σ).1).1.testBit k) h) ||| (bI ((flA (plM n σ 83) (nI h) (moS n σ).1).1.testBit k) <<< (nI h &&& 31)) = nI (stF (fun a => (flA (plM n σ 83) (nI a) (moS n σ).1).1.testBit k) (h + 1)) from st_sh (q := fun a => (flA (plM n σ 83) (nI a) (moS n σ).1).1.testBit k) (by omega)]
      refine x_istore_n dX9_reach_42 (Nat.le_of_ble_eq_true rfl) rfl ?_
      refine x_aload_n dX9_reach_43 rfl ?_
      refine s_callV dX9_reach_44 (k_lets _) rfl w_X9_lets lmX9_151 im_X9_lets se_X9_lets rfl (rfl) rfl (Nat.le_of_ble_eq_true rfl) rfl (by decide) (fun v_44 σ_44 h_44 => ?_)
      obtain ⟨rfl, W2, hW2, rfl⟩ := h_44
      refine s_iinc dX9_reach_47 rfl (Nat.le_of_ble_eq_true rfl) rfl ?_
      refine x_goto (tgt := 19) dX9_reach_50 (by decide) ?_
      refine ih (h + 1) _ (by omega) ⟨fun i hi => ?_, fun i hi => ?_, fun c a b => ?_⟩
      · rw [sw_s, hW2 i hi, sw_n _ _ (by decide)]; exact hI.2.1 i hi
      · rw [sw_n _ _ (by decide), sw_n _ _ (by decide)]; exact hI.2.1 i hi
      · rw [sw_n _ _ a, sw_n _ _ a]; exact hI.2.2 c a b
  refine x_aload_n dX9_reach_0 rfl ?_
  refine x_iload_n dX9_reach_1 rfl ?_
  refine s_callV dX9_reach_2 (k_isStreet σ hn hn8 _) rfl w_X9_isStreet lmX9_129 im_X9_isStreet se_X9_isStreet rfl (rfl) rfl (Nat.le_of_ble_eq_true rfl) rfl (by decide) (fun v_2 σ_2 h_2 => ?_)
  obtain ⟨rfl, z_2⟩ := h_2
  have z_2 := z_2.symm
  subst z_2
  refine x_if_ne (tgt := 11) dX9_reach_5 (by decide) (fun c_5 => ?_) (fun c_5 => (absurd c_5 (by rw [inb_nI hk (by omega)]; decide)))
  refine x_aload_n dX9_reach_11 rfl ?_
  refine s_callV dX9_reach_12 (k_holds σ) rfl w_X9_holds lmX9_145 im_X9_holds se_X9_holds rfl (rfl) rfl (Nat.le_of_ble_eq_true rfl) rfl (by decide) (fun v_12 σ_12 h_12 => ?_)
  obtain ⟨rfl, W, hW, rfl⟩ := h_12
  refine x_iconst (v := 0) dX9_reach_15 (by decide) ?_
  refine x_istore_n dX9_reach_16 (Nat.le_of_ble_eq_true rfl) rfl ?_
  refine x_iconst (v := 0) dX9_reach_17 (by decide) ?_
  refine x_istore_n dX9_reach_18 (Nat.le_of_ble_eq_true rfl) rfl ?_
  refine loop n 0 _ (by omega) ⟨fun i hi => by rw [sw_n _ _ (by decide)], fun i hi => by rw [sw_s]; exact hW i hi, fun c _ b => sw_n _ _ b⟩
