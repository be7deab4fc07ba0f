/-! ===== RainBallot's own helpers ===== -/
set_option maxRecDepth 100000 in
theorem k_find (σ : Sg) {n D : Nat} (hn : σ 3 5 = nI n) (hn8 : n ≤ 8) (hD4 : D ≤ 4) : Cm 9 YX4_find [.ref 62, .ref 3, .ref 15, .int (nI D)] σ (fun v σ' => v = none ∧ σ' 62 4 = (exF (plC n σ) D D (moC n σ 15) (σ 64) (-1, tr D (σ 65))).1 ∧ tr D (σ' 65) = (exF (plC n σ) D D (moC n σ 15) (σ 64) (-1, tr D (σ 65))).2 ∧ ∀ c, c ≠ 62 → c ≠ 64 → c ≠ 65 → ¬ (66 ≤ c ∧ c ≤ 80) → σ' c = σ c) := by
  refine Cm_of (by decide +kernel) (Nat.le_of_ble_eq_true rfl) ?_
  have e4 : (if (4 : Int32) < nI D then (4 : Int32) else nI D) = nI D := if_neg (show ¬ nI 4 < nI D from nI_nlt hD4 (by decide))
  refine x_aload_n dX4_find_0 rfl ?_
  refine x_iload_n dX4_find_1 rfl ?_
  refine x_iconst (v := 4) dX4_find_2 (by decide) ?_
  refine s_min dX4_find_3 tmX4_32 rfl (Nat.le_of_ble_eq_true rfl) (by decide) ?_
  rw [e4]
  refine s_puti (ci := 4) (k := 3) (N := 5) (C := RX4) (T := TX4) (ty0 := tyX4) dX4_find_6 lfX4_24 inX4 tyX4_ok nmX4 rfl (by decide) rfl rfl (rfl) rfl ?_
  refine xname (fun σ_6 e_6 => ?_)
  refine x_aload_n dX4_find_9 rfl ?_
  refine x_iconst (v := -1) dX4_find_10 (by decide) ?_
  refine s_puti (ci := 4) (k := 4) (N := 5) (C := RX4) (T := TX4) (ty0 := tyX4) dX4_find_11 lfX4_28 inX4 tyX4_ok nmX4 rfl (by decide) rfl rfl (rfl) rfl ?_
  refine xname (fun σ_11 e_11 => ?_)
  refine x_aload_n dX4_find_14 rfl ?_
  refine s_getr (ci := 4) (k := 0) (N := 5) (C := RX4) (T := TX4) dX4_find_15 lfX4_11 inX4 rfl (by decide) (rfl) rfl ?_
  refine x_iconst (v := 0) dX4_find_18 (by decide) ?_
  refine s_aald dX4_find_19 (rfl) (j := 0) (hi := by decide) (hj := by decide) (hn := by decide) rfl ?_
  refine x_aload_n dX4_find_20 rfl ?_
  refine s_callV dX4_find_21 (k_mocopy σ_11 (mo_be (i := 0) (by decide)) mo_15 (by decide)) rfl w_X1_copyFrom lmX4_38 im_X1_copyFrom se_X1_copyFrom rfl (rfl) rfl (Nat.le_of_ble_eq_true rfl) rfl (by decide) (fun v_21 σ_21 h_21 => ?_)
  obtain ⟨rfl, hmo, hfr⟩ := h_21
  refine x_aload_n dX4_find_24 rfl ?_
  refine x_aload_n dX4_find_25 rfl ?_
  refine x_iconst (v := 0) dX4_find_26 (by decide) ?_
  refine s_callS dX4_find_27 (k_extend hn8 hD4 D 0 σ_21 (by omega) (by rw [hfr 3 (by decide) (by decide) (by decide), e_11, e_6, sg_n _ _ _ (by decide), sg_n _ _ _ (by decide)]; exact hn) (by rw [hfr 62 (by decide) (by decide) (by decide), e_11, sg_k _ _ _ (by decide), e_6, sg_s])) rfl w_X4_extend lmX4_42 st_X4_extend rfl (Nat.le_of_ble_eq_true rfl) rfl (xdd (b := 9) (by omega) (by decide)) (fun v_27 σ_27 h_27 => ?_)
  obtain ⟨rfl, hex⟩ := h_27
  refine s_ret dX4_find_30 rfl ?_
  obtain ⟨j1, j2, j3, j4, j5⟩ := hex
  have g62 : σ_21 62 4 = -1 := by rw [hfr 62 (by decide) (by decide) (by decide), e_11, sg_s]
  have g65 : σ_21 65 = σ 65 := by rw [hfr 65 (by decide) (by decide) (by decide), e_11, e_6, sg_n _ _ _ (by decide), sg_n _ _ _ (by decide)]
  have g64 : σ_21 64 = σ 64 := by rw [hfr 64 (by decide) (by decide) (by decide), e_11, e_6, sg_n _ _ _ (by decide), sg_n _ _ _ (by decide)]
  have gp : plC n σ_21 = plC n σ := plC_fr (fun c h1 h2 => by rw [hfr c (by omega) (by omega) (by omega), e_11, e_6, sg_n _ _ _ (by omega), sg_n _ _ _ (by omega)])
  have gm : moC n σ_21 66 = moC n σ 15 := by
    rw [hmo n hn8]
    exact moC_fr (fun c h1 h2 => by rw [e_11, e_6, sg_n _ _ _ (by omega), sg_n _ _ _ (by omega)])
  rw [g62, g65, g64, gp, show 66 + 3 * 0 = 66 from rfl, gm] at j1 j2
  exact ⟨rfl, j1, j2, fun c h1 h2 h3 h4 => by rw [j5 c h1 h2 h3 (by omega), hfr c (by omega) (by omega) (by omega), e_11, e_6, sg_n _ _ _ h1, sg_n _ _ _ h1]⟩
def unF (own taken : Nat) : Bool := decide (taken = 0 ∨ taken = own + 1 ∨ (taken = 1 ∧ (own = 1 ∨ own = 2)))
set_option maxRecDepth 100000 in
theorem k_isUnder (σ : Sg) {k t : Nat} (hk : k < 4) (ht : t < 5) : Cm 0 YX8_isUnder [.int (nI k), .int (nI t)] σ (fun v σ' => v = some (.int (bI (unF k t))) ∧ σ' = σ) := by
  refine Cm_of (by decide +kernel) (Nat.le_of_ble_eq_true rfl) ?_
  have key : ∀ x : Int32, x = bI (unF k t) → some (Value.int x) = some (.int (bI (unF k t))) ∧ σ = σ := fun x h => ⟨by rw [h], rfl⟩
  refine x_iload_n dX8_isUnder_0 rfl ?_
  refine x_if_eq (tgt := 11) dX8_isUnder_1 (by decide) (fun c_1 => ?_) (fun c_1 => ?_)
  · refine x_iconst (v := 1) dX8_isUnder_11 (by decide) ?_
    refine s_zret dX8_isUnder_12 rfl (by first | exact Or.inl rfl | exact Or.inr rfl | assumption) ?_
    refine key _ ?_
    clear key
    have hk4 : k = 0 ∨ k = 1 ∨ k = 2 ∨ k = 3 := by omega
    have ht5 : t = 0 ∨ t = 1 ∨ t = 2 ∨ t = 3 ∨ t = 4 := by omega
    rcases hk4 with rfl | rfl | rfl | rfl <;> rcases ht5 with rfl | rfl | rfl | rfl | rfl <;> first | rfl | exact absurd (by decide) c_1 | exact absurd c_1 (by decide) | exact absurd (by decide) c_8 | exact absurd c_8 (by decide) | exact absurd (by decide) c_15 | exact absurd c_15 (by decide) | exact absurd (by decide) c_20 | exact absurd c_20 (by decide) | exact absurd (by decide) c_25 | exact absurd c_25 (by decide)
  · refine x_iload_n dX8_isUnder_4 rfl ?_
    refine x_iload_n dX8_isUnder_5 rfl ?_
    refine x_iconst (v := 1) dX8_isUnder_6 (by decide) ?_
    refine x_iadd dX8_isUnder_7 ?_
    refine x_icmp_ne (tgt := 13) dX8_isUnder_8 (by decide) (fun c_8 => ?_) (fun c_8 => ?_)
    · refine x_iload_n dX8_isUnder_13 rfl ?_
      refine x_iconst (v := 1) dX8_isUnder_14 (by decide) ?_
      refine x_icmp_ne (tgt := 32) dX8_isUnder_15 (by decide) (fun c_15 => ?_) (fun c_15 => ?_)
      · refine x_iconst (v := 0) dX8_isUnder_32 (by decide) ?_
        refine s_zret dX8_isUnder_33 rfl (by first | exact Or.inl rfl | exact Or.inr rfl | assumption) ?_
        refine key _ ?_
        clear key
        have hk4 : k = 0 ∨ k = 1 ∨ k = 2 ∨ k = 3 := by omega
        have ht5 : t = 0 ∨ t = 1 ∨ t = 2 ∨ t = 3 ∨ t = 4 := by omega
        rcases hk4 with rfl | rfl | rfl | rfl <;> rcases ht5 with rfl | rfl | rfl | rfl | rfl <;> first | rfl | exact absurd (by decide) c_1 | exact absurd c_1 (by decide) | exact absurd (by decide) c_8 | exact absurd c_8 (by decide) | exact absurd (by decide) c_15 | exact absurd c_15 (by decide) | exact absurd (by decide) c_20 | exact absurd c_20 (by decide) | exact absurd (by decide) c_25 | exact absurd c_25 (by decide)
      · refine x_iload_n dX8_isUnder_18 rfl ?_
        refine x_iconst (v := 1) dX8_isUnder_19 (by decide) ?_
        refine x_icmp_eq (tgt := 28) dX8_isUnder_20 (by decide) (fun c_20 => ?_) (fun c_20 => ?_)
        · refine x_iconst (v := 1) dX8_isUnder_28 (by decide) ?_
          refine x_goto (tgt := 33) dX8_isUnder_29 (by decide) ?_
          refine s_zret dX8_isUnder_33 rfl (by first | exact Or.inl rfl | exact Or.inr rfl | assumption) ?_
          refine key _ ?_
          clear key
          have hk4 : k = 0 ∨ k = 1 ∨ k = 2 ∨ k = 3 := by omega
          have ht5 : t = 0 ∨ t = 1 ∨ t = 2 ∨ t = 3 ∨ t = 4 := by omega
          rcases hk4 with rfl | rfl | rfl | rfl <;> rcases ht5 with rfl | rfl | rfl | rfl | rfl <;> first | rfl | exact absurd (by decide) c_1 | exact absurd c_1 (by decide) | exact absurd (by decide) c_8 | exact absurd c_8 (by decide) | exact absurd (by decide) c_15 | exact absurd c_15 (by decide) | exact absurd (by decide) c_20 | exact absurd c_20 (by decide) | exact absurd (by decide) c_25 | exact absurd c_25 (by decide)
        · refine x_iload_n dX8_isUnder_23 rfl ?_
          refine x_iconst (v := 2) dX8_isUnder_24 (by decide) ?_
          refine x_icmp_ne (tgt := 32) dX8_isUnder_25 (by decide) (fun c_25 => ?_) (fun c_25 => ?_)
          · refine x_iconst (v := 0) dX8_isUnder_32 (by decide) ?_
            refine s_zret dX8_isUnder_33 rfl (by first | exact Or.inl rfl | exact Or.inr rfl | assumption) ?_
            refine key _ ?_
            clear key
            have hk4 : k = 0 ∨ k = 1 ∨ k = 2 ∨ k = 3 := by omega
            have ht5 : t = 0 ∨ t = 1 ∨ t = 2 ∨ t = 3 ∨ t = 4 := by omega
            rcases hk4 with rfl | rfl | rfl | rfl <;> rcases ht5 with rfl | rfl | rfl | rfl | rfl <;> first | rfl | exact absurd (by decide) c_1 | exact absurd c_1 (by decide) | exact absurd (by decide) c_8 | exact absurd c_8 (by decide) | exact absurd (by decide) c_15 | exact absurd c_15 (by decide) | exact absurd (by decide) c_20 | exact absurd c_20 (by decide) | exact absurd (by decide) c_25 | exact absurd c_25 (by decide)
          · refine x_iconst (v := 1) dX8_isUnder_28 (by decide) ?_
            refine x_goto (tgt := 33) dX8_isUnder_29 (by decide) ?_
            refine s_zret dX8_isUnder_33 rfl (by first | exact Or.inl rfl | exact Or.inr rfl | assumption) ?_
            refine key _ ?_
            clear key
            have hk4 : k = 0 ∨ k = 1 ∨ k = 2 ∨ k = 3 := by omega
            have ht5 : t = 0 ∨ t = 1 ∨ t = 2 ∨ t = 3 ∨ t = 4 := by omega
            rcases hk4 with rfl | rfl | rfl | rfl <;> rcases ht5 with rfl | rfl | rfl | rfl | rfl <;> first | rfl | exact absurd (by decide) c_1 | exact absurd c_1 (by decide) | exact absurd (by decide) c_8 | exact absurd c_8 (by decide) | exact absurd (by decide) c_15 | exact absurd c_15 (by decide) | exact absurd (by decide) c_20 | exact absurd c_20 (by decide) | exact absurd (by decide) c_25 | exact absurd c_25 (by decide)
    · refine x_iconst (v := 1) dX8_isUnder_11 (by decide) ?_
      refine s_zret dX8_isUnder_12 rfl (by first | exact Or.inl rfl | exact Or.inr rfl | assumption) ?_
      refine key _ ?_
      clear key
      have hk4 : k = 0 ∨ k = 1 ∨ k = 2 ∨ k = 3 := by omega
      have ht5 : t = 0 ∨ t = 1 ∨ t = 2 ∨ t = 3 ∨ t = 4 := by omega
      rcases hk4 with rfl | rfl | rfl | rfl <;> rcases ht5 with rfl | rfl | rfl | rfl | rfl <;> first | rfl | exact absurd (by decide) c_1 | exact absurd c_1 (by decide) | exact absurd (by decide) c_8 | exact absurd c_8 (by decide) | exact absurd (by decide) c_15 | exact absurd c_15 (by decide) | exact absurd (by decide) c_20 | exact absurd c_20 (by decide) | exact absurd (by decide) c_25 | exact absurd c_25 (by decide)
set_option maxRecDepth 100000 in
theorem k_isCarriedWith (σ : Sg) {n s set : Nat} (hb : σ 59 2 = nI n) (hn8 : n ≤ 8) (hset : set < 256) (p : PL) (o : MO) (hp : p.1 = n) (ho : moC n σ 15 = o) (hch : ∀ i, i < n → σ 60 i = chF p o.1 i) : Cm 2 YX8_isCarriedWith [.ref 0, .int (nI set), .int (nI s)] σ (fun v σ' => v = some (.int (bI (decide (caF p o 0 set (nI s) = nI s)))) ∧ ∀ c, c ≠ 61 → σ' c = σ c) := by
  refine Cm_of (by decide +kernel) (Nat.le_of_ble_eq_true rfl) ?_
  subst hp
  refine x_aload_n dX8_isCarriedWith_0 rfl ?_
  refine s_getr (ci := 8) (k := 8) (N := 10) (C := RX8) (T := TX8) dX8_isCarriedWith_1 lfX8_60 inX8 rfl (by decide) (rfl) rfl ?_
  refine x_aload_n dX8_isCarriedWith_4 rfl ?_
  refine s_getr (ci := 8) (k := 3) (N := 10) (C := RX8) (T := TX8) dX8_isCarriedWith_5 lfX8_29 inX8 rfl (by decide) (rfl) rfl ?_
  refine x_iload_n dX8_isCarriedWith_8 rfl ?_
  refine x_iload_n dX8_isCarriedWith_9 rfl ?_
  refine s_callV dX8_isCarriedWith_10 (k_tallyTurned (toward := nI s) (ch := chF p o.1) σ mo_15 hb hn8 hset hch) rfl w_X0_tallyTurned lmX8_251 im_X0_tallyTurned se_X0_tallyTurned rfl (rfl) rfl (Nat.le_of_ble_eq_true rfl) rfl (by decide) (fun v_10 σ_10 h_10 => ?_)
  obtain ⟨rfl, V, hV, rfl⟩ := h_10
  refine x_aload_n dX8_isCarriedWith_13 rfl ?_
  refine s_getr (ci := 8) (k := 8) (N := 10) (C := RX8) (T := TX8) dX8_isCarriedWith_14 lfX8_60 inX8 rfl (by decide) (rfl) rfl ?_
  refine s_callV dX8_isCarriedWith_17 (k_winner _ (n := p.1) (by rw [sw_n _ _ (by decide)]; exact hb) hn8) rfl w_X0_winner lmX8_244 im_X0_winner se_X0_winner rfl (rfl) rfl (Nat.le_of_ble_eq_true rfl) rfl (by decide) (fun v_17 σ_17 h_17 => ?_)
  obtain ⟨rfl, z⟩ := h_17
  have z := z.symm
  subst z
  have ew : (wnF (sw σ 61 V 61) p.1).1 = caF p o 0 set (nI s) := by
    rw [sw_s]
    unfold caF
    rw [wnF_congr p.1 hV, ← ho]
    rfl
  rw [ew]
  refine x_iload_n dX8_isCarriedWith_20 rfl ?_
  refine x_icmp_ne (tgt := 28) dX8_isCarriedWith_21 (by decide) (fun c_21 => ?_) (fun c_21 => ?_)
  · refine x_iconst (v := 0) dX8_isCarriedWith_28 (by decide) ?_
    exact s_zret dX8_isCarriedWith_29 rfl (by first | exact Or.inl rfl | exact Or.inr rfl | assumption) (by first | exact ⟨by rw [decide_eq_false c_21]; rfl, fun c h => sw_n _ _ h⟩ | exact ⟨by rw [decide_eq_true c_21]; rfl, fun c h => sw_n _ _ h⟩)
  · refine x_iconst (v := 1) dX8_isCarriedWith_24 (by decide) ?_
    refine x_goto (tgt := 29) dX8_isCarriedWith_25 (by decide) ?_
    exact s_zret dX8_isCarriedWith_29 rfl (by first | exact Or.inl rfl | exact Or.inr rfl | assumption) (by first | exact ⟨by rw [decide_eq_false c_21]; rfl, fun c h => sw_n _ _ h⟩ | exact ⟨by rw [decide_eq_true c_21]; rfl, fun c h => sw_n _ _ h⟩)
/-- the first N days go as was seen -/
def asF (p : PL) (o : MO) (pl ti : FN) (q : Nat) : Nat → Bool
  | 0 => true
  | k + 1 => asF p o pl ti q k && alF pl ti (caF p (itF p o k) 0 0 (-1)) (nI (k + 1)) q
theorem asF_no {p : PL} {o : MO} {pl ti : FN} {q k : Nat} (h : alF pl ti (caF p (itF p o k) 0 0 (-1)) (nI (k + 1)) q = false) : ∀ N, k < N → asF p o pl ti q N = false := by
  intro N
  induction N with
  | zero => intro h; omega
  | succ N ih =>
    intro hk
    unfold asF
    by_cases e : k = N
    · subst e; rw [h, Bool.and_false]
    · rw [ih (by omega), Bool.false_and]
set_option maxRecDepth 100000 in
theorem k_isAllSeen (σ : Sg) {n q last : Nat} (hn : σ 3 5 = nI n) (hn8 : n ≤ 8) (hq : σ 56 2 = nI q) (hq6 : q ≤ 6) (hlast : ldF (σ 58) q = nI last) (hl20 : last ≤ 20) : Cm 6 YX8_isAllSeenInTrial [.ref 0] σ (fun v σ' => v = some (.int (bI (asF (plC n σ) (moC n σ 18) (σ 57) (σ 58) q last))) ∧ ∀ c, c ≠ 18 → c ≠ 19 → c ≠ 20 → c ≠ 59 → c ≠ 60 → c ≠ 61 → σ' c = σ c) := by
  refine Cm_of (by decide +kernel) (Nat.le_of_ble_eq_true rfl) ?_
  have loop : ∀ (j k : Nat) (τ : Sg), k + j = last → moC n τ 18 = itF (plC n σ) (moC n σ 18) k → asF (plC n σ) (moC n σ 18) (σ 57) (σ 58) q k = true → (∀ c, c ≠ 18 → c ≠ 19 → c ≠ 20 → c ≠ 59 → c ≠ 60 → c ≠ 61 → τ c = σ c) →
      Ex (YX8_isAllSeenInTrial, 6, xB0, none) 10 [.ref 0, .int (nI last), .int (nI (k + 1))] [] (xMs τ) (xQ (fun v σ' => v = some (.int (bI (asF (plC n σ) (moC n σ 18) (σ 57) (σ 58) q last))) ∧ ∀ c, c ≠ 18 → c ≠ 19 → c ≠ 20 → c ≠ 59 → c ≠ 60 → c ≠ 61 → σ' c = σ c)) := by
    intro j
    induction j with
    | zero =>
      intro k τ hk h1 h2 h3
      obtain rfl : k = last := by omega
      refine x_iload_n dX8_isAllSeenInTrial_10 rfl ?_
      refine x_iload_n dX8_isAllSeenInTrial_11 rfl ?_
      refine x_icmp_gt (tgt := 42) dX8_isAllSeenInTrial_12 (by decide) (fun c_12 => ?_) (fun c_12 => (absurd (nI_lt (by omega) (by omega)) c_12))
      refine x_iconst (v := 1) dX8_isAllSeenInTrial_42 (by decide) ?_
      exact s_zret dX8_isAllSeenInTrial_43 rfl (by first | exact Or.inl rfl | exact Or.inr rfl | assumption) (by rw [h2]; exact ⟨rfl, h3⟩)
    | succ j ih =>
      intro k τ hk h1 h2 h3
      have hp : plC n τ = plC n σ := plC_fr (fun c a b => h3 c (by omega) (by omega) (by omega) (by omega) (by omega) (by omega))
      refine x_iload_n dX8_isAllSeenInTrial_10 rfl ?_
      refine x_iload_n dX8_isAllSeenInTrial_11 rfl ?_
      refine x_icmp_gt (tgt := 42) dX8_isAllSeenInTrial_12 (by decide) (fun c_12 => (absurd c_12 (nI_nlt (by omega) (by omega)))) (fun c_12 => ?_)
      refine x_aload_n dX8_isAllSeenInTrial_15 rfl ?_
      refine s_getr (ci := 8) (k := 7) (N := 10) (C := RX8) (T := TX8) dX8_isAllSeenInTrial_16 lfX8_53 inX8 rfl (by decide) (rfl) rfl ?_
      refine x_aload_n dX8_isAllSeenInTrial_19 rfl ?_
      refine x_aload_n dX8_isAllSeenInTrial_20 rfl ?_
      refine s_getr (ci := 8) (k := 4) (N := 10) (C := RX8) (T := TX8) dX8_isAllSeenInTrial_21 lfX8_33 inX8 rfl (by decide) (rfl) rfl ?_
      refine s_callV dX8_isAllSeenInTrial_24 (k_passDay τ mo_18 (n := n) (by rw [h3 3 (by decide) (by decide) (by decide) (by decide) (by decide) (by decide)]; exact hn) hn8) rfl w_X8_passDay lmX8_150 im_X8_passDay se_X8_passDay rfl (rfl) rfl (Nat.le_of_ble_eq_true rfl) rfl (by decide) (fun v_24 σ_24 h_24 => ?_)
      obtain ⟨rfl, hmo, hfr⟩ := h_24
      rw [hp, h1]
      refine x_iload_n dX8_isAllSeenInTrial_27 rfl ?_
      refine s_callV dX8_isAllSeenInTrial_28 (k_allow σ_24 (q := q) (by rw [hfr 56 (by decide) (by decide) (by decide) (by decide) (by decide) (by decide), h3 56 (by decide) (by decide) (by decide) (by decide) (by decide) (by decide)]; exact hq) hq6 _ _) rfl w_X6_allow lmX8_258 im_X6_allow se_X6_allow rfl (rfl) rfl (Nat.le_of_ble_eq_true rfl) rfl (by decide) (fun v_28 σ_28 h_28 => ?_)
      obtain ⟨rfl, z⟩ := h_28
      have z := z.symm
      subst z
      have e57 : σ_24 57 = σ 57 := by rw [hfr 57 (by decide) (by decide) (by decide) (by decide) (by decide) (by decide), h3 57 (by decide) (by decide) (by decide) (by decide) (by decide) (by decide)]
      have e58 : σ_24 58 = σ 58 := by rw [hfr 58 (by decide) (by decide) (by decide) (by decide) (by decide) (by decide), h3 58 (by decide) (by decide) (by decide) (by decide) (by decide) (by decide)]
      rw [e57, e58]
      have hfr2 : ∀ c, c ≠ 18 → c ≠ 19 → c ≠ 20 → c ≠ 59 → c ≠ 60 → c ≠ 61 → σ_24 c = σ c := fun c a1 a2 a3 a4 a5 a6 => by rw [hfr c a1 a2 a3 a4 a5 a6, h3 c a1 a2 a3 a4 a5 a6]
      refine x_if_ne (tgt := 36) dX8_isAllSeenInTrial_31 (by decide) (fun c_31 => ?_) (fun c_31 => ?_)
      · refine s_iinc dX8_isAllSeenInTrial_36 rfl (Nat.le_of_ble_eq_true rfl) rfl ?_
        refine x_goto (tgt := 10) dX8_isAllSeenInTrial_39 (by decide) ?_
        exact ih (k + 1) _ (by omega) (by rw [hmo, hp, h1]; rfl) (by unfold asF; rw [h2, bI_n c_31]; rfl) hfr2
      · refine x_iconst (v := 0) dX8_isAllSeenInTrial_34 (by decide) ?_
        exact s_zret dX8_isAllSeenInTrial_35 rfl (by first | exact Or.inl rfl | exact Or.inr rfl | assumption) (by rw [asF_no (bI_0.mp c_31) last (by omega)]; exact ⟨rfl, hfr2⟩)
  refine x_aload_n dX8_isAllSeenInTrial_0 rfl ?_
  refine s_getr (ci := 8) (k := 7) (N := 10) (C := RX8) (T := TX8) dX8_isAllSeenInTrial_1 lfX8_53 inX8 rfl (by decide) (rfl) rfl ?_
  refine s_callV dX8_isAllSeenInTrial_4 (k_lastDay σ hq hq6) rfl w_X6_lastDay lmX8_255 im_X6_lastDay se_X6_lastDay rfl (rfl) rfl (Nat.le_of_ble_eq_true rfl) rfl (by decide) (fun v_4 σ_4 h_4 => ?_)
  obtain ⟨rfl, z_4⟩ := h_4
  have z_4 := z_4.symm
  subst z_4
  rw [hlast]
  refine x_istore_n dX8_isAllSeenInTrial_7 (Nat.le_of_ble_eq_true rfl) rfl ?_
  refine x_iconst (v := 1) dX8_isAllSeenInTrial_8 (by decide) ?_
  refine x_istore_n dX8_isAllSeenInTrial_9 (Nat.le_of_ble_eq_true rfl) rfl ?_
  exact loop last 0 σ (by omega) rfl rfl (fun c _ _ _ _ _ _ => rfl)
/-- in how many of ten for each: of the first k streets just those in h are at home -/
def wtF (q h : Nat) : Nat → Nat
  | 0 => 1
  | k + 1 => wtF q h k * (if h.testBit k = true then q else 10 - q)
theorem wtF_le {q : Nat} (hq : q ≤ 10) (h : Nat) : ∀ k, wtF q h k ≤ 10 ^ k := by
  intro k
  induction k with
  | zero => exact Nat.le_refl _
  | succ k ih =>
    unfold wtF
    rw [Nat.pow_succ]
    refine Nat.mul_le_mul ih ?_
    split <;> omega
