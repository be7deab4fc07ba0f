/-! ===== RainBallotModel: its views; what a street wants, to whom it gives its votes, by whom it is carried ===== -/
/-- the model's plan (told, or the draft), and a moment in a row of numbers -/
def plM (n : Nat) (σ : Sg) (c : Nat) : PL := (n, σ c 1, σ c 2, tr n (fun i => σ c (3 + i)), tr n (fun i => σ c (11 + i)), tr n (fun i => σ c (19 + i)), tr n (fun i => σ c (27 + i)), tr n (fun i => σ c (35 + i)))
def moM (n : Nat) (σ : Sg) (c o : Nat) : MO := (tr n (fun i => σ c (o + i)), tr n (fun i => σ c (o + (8 + i))), σ c (o + 17), σ c (o + 16))
/-- the model's moment now -/
def moS (n : Nat) (σ : Sg) : MO := (tr n (σ 85), tr n (fun i => σ 85 (8 + i)), σ 85 17, σ 85 16)
theorem moS_fr {n : Nat} {σ σ' : Sg} (h : ∀ i, i < 18 → σ' 85 i = σ 85 i) (hn8 : n ≤ 8) : moS n σ' = moS n σ := by
  unfold moS
  rw [tr_ext (f := σ' 85) (g := σ 85) (fun k hk => h k (by omega)), tr_ext (f := fun i => σ' 85 (8 + i)) (g := fun i => σ 85 (8 + i)) (fun k hk => h (8 + k) (by omega)), h 17 (by decide), h 16 (by decide)]
set_option maxRecDepth 100000 in
theorem k_in (σ : Sg) (x lo hi : Int32) : Cm 0 YX9_in [.int x, .int lo, .int hi] σ (fun v σ' => v = some (.int (bI (rgF lo hi x))) ∧ σ' = σ) := by
  refine Cm_of (by decide +kernel) (Nat.le_of_ble_eq_true rfl) ?_
  have e : ∀ c : Bool, c = rgF lo hi x → ∀ y : Int32, y = bI c → some (Value.int y) = some (Value.int (bI (rgF lo hi x))) ∧ σ = σ := fun c h x h2 => ⟨by rw [h2, h], rfl⟩
  refine x_iload_n dX9_in_0 rfl ?_
  refine x_iload_n dX9_in_1 rfl ?_
  refine x_icmp_lt (tgt := 14) dX9_in_2 (by decide) (fun c_2 => ?_) (fun c_2 => ?_)
  · refine x_iconst (v := 0) dX9_in_14 (by decide) ?_
    exact s_zret dX9_in_15 rfl (by first | exact Or.inl rfl | exact Or.inr rfl | assumption | exact bI_01 _) (by first | exact e true (decide_eq_true ⟨c_2, c_7⟩).symm _ rfl | exact e false (rgF_lo c_2).symm _ rfl | exact e false (rgF_hi c_7).symm _ rfl)
  · refine x_iload_n dX9_in_5 rfl ?_
    refine x_iload_n dX9_in_6 rfl ?_
    refine x_icmp_gt (tgt := 14) dX9_in_7 (by decide) (fun c_7 => ?_) (fun c_7 => ?_)
    · refine x_iconst (v := 0) dX9_in_14 (by decide) ?_
      exact s_zret dX9_in_15 rfl (by first | exact Or.inl rfl | exact Or.inr rfl | assumption | exact bI_01 _) (by first | exact e true (decide_eq_true ⟨c_2, c_7⟩).symm _ rfl | exact e false (rgF_lo c_2).symm _ rfl | exact e false (rgF_hi c_7).symm _ rfl)
    · refine x_iconst (v := 1) dX9_in_10 (by decide) ?_
      refine x_goto (tgt := 15) dX9_in_11 (by decide) ?_
      exact s_zret dX9_in_15 rfl (by first | exact Or.inl rfl | exact Or.inr rfl | assumption | exact bI_01 _) (by first | exact e true (decide_eq_true ⟨c_2, c_7⟩).symm _ rfl | exact e false (rgF_lo c_2).symm _ rfl | exact e false (rgF_hi c_7).symm _ rfl)
theorem inb_rg {n : Nat} (hn8 : n ≤ 8) (s : Int32) : rgF 0 (nI n - 1) s = inb n s := by
  have h : ∀ n, n < 9 → (nI n - 1).toInt = (n : Int) - 1 := by decide
  have e : nI n - 1 < s ↔ nI n ≤ s := by
    rw [Int32.lt_iff_toInt_lt, Int32.le_iff_toInt_le, h n (by omega), nI_toInt (by omega)]
    omega
  exact decide_eq_decide.mpr (and_congr Iff.rfl (not_congr e))
set_option maxRecDepth 100000 in
theorem k_isStreet (σ : Sg) {n : Nat} (hn : σ 83 0 = nI n) (hn8 : n ≤ 8) (s : Int32) : Cm 1 YX9_isStreet [.ref 81, .int s] σ (fun v σ' => v = some (.int (bI (inb n s))) ∧ σ' = σ) := by
  refine Cm_of (by decide +kernel) (Nat.le_of_ble_eq_true rfl) ?_
  rw [← inb_rg hn8]
  refine x_iload_n dX9_isStreet_0 rfl ?_
  refine x_iconst (v := 0) dX9_isStreet_1 (by decide) ?_
  refine x_aload_n dX9_isStreet_2 rfl ?_
  refine s_getr (ci := 9) (k := 2) (N := 20) (C := RX9) (T := TX9) dX9_isStreet_3 lfX9_13 inX9 rfl (by decide) (rfl) rfl ?_
  refine x_iconst (v := 0) dX9_isStreet_6 (by decide) ?_
  refine s_iald dX9_isStreet_7 (rfl) (j := 0) (hi := by decide) (hj := by omega) (hn := by decide) ?_
  refine x_iconst (v := 1) dX9_isStreet_8 (by decide) ?_
  rw [hn]
  refine x_isub dX9_isStreet_9 ?_
  refine s_callS dX9_isStreet_10 (k_in σ _ _ _) rfl w_X9_in lmX9_51 st_X9_in rfl (Nat.le_of_ble_eq_true rfl) rfl (by decide) (fun v_10 σ_10 h_10 => ?_)
  obtain ⟨rfl, z_10⟩ := h_10
  have z_10 := z_10.symm
  subst z_10
  exact s_zret dX9_isStreet_13 rfl (by first | exact Or.inl rfl | exact Or.inr rfl | assumption | exact bI_01 _) (⟨rfl, rfl⟩)
set_option maxRecDepth 100000 in
theorem k_mwants (σ : Sg) {n k : Nat} (hn8 : n ≤ 8) (hk : k < n) : Cm 0 YX9_wants [.ref 81, .int (nI k)] σ (fun v σ' => v = some (.int (wantF (plM n σ 83).2.2.2.1 (plM n σ 83).2.2.2.2.1 k)) ∧ σ' = σ) := by
  refine Cm_of (by decide +kernel) (Nat.le_of_ble_eq_true rfl) ?_
  have e1 : (plM n σ 83).2.2.2.1 k = σ 83 (3 + k) := tr_i (f := fun i => σ 83 (3 + i)) hk
  have e2 : (plM n σ 83).2.2.2.2.1 k = σ 83 (11 + k) := tr_i (f := fun i => σ 83 (11 + i)) hk
  unfold wantF
  rw [e1, e2]
  refine x_aload_n dX9_wants_0 rfl ?_
  refine s_getr (ci := 9) (k := 2) (N := 20) (C := RX9) (T := TX9) dX9_wants_1 lfX9_13 inX9 rfl (by decide) (rfl) rfl ?_
  refine x_iconst (v := 3) dX9_wants_4 (by decide) ?_
  refine x_iload_n dX9_wants_5 rfl ?_
  refine x_iadd dX9_wants_6 ?_
  refine s_iald dX9_wants_7 (rfl) (hi := nI_add 3 k) (hj := by omega) (hn := by decide) ?_
  refine x_istore_n dX9_wants_8 (Nat.le_of_ble_eq_true rfl) rfl ?_
  refine x_iload_n dX9_wants_9 rfl ?_
  refine x_iconst (v := 3) dX9_wants_10 (by decide) ?_
  refine x_icmp_ne (tgt := 18) dX9_wants_11 (by decide) (fun c_11 => ?_) (fun c_11 => ?_)
  · refine x_iload_n dX9_wants_18 rfl ?_
    refine x_iconst (v := 1) dX9_wants_19 (by decide) ?_
    refine x_icmp_ne (tgt := 37) dX9_wants_20 (by decide) (fun c_20 => ?_) (fun c_20 => ?_)
    · refine x_aload_n dX9_wants_37 rfl ?_
      refine s_getr (ci := 9) (k := 2) (N := 20) (C := RX9) (T := TX9) dX9_wants_38 lfX9_13 inX9 rfl (by decide) (rfl) rfl ?_
      refine x_bipush (v := 11) dX9_wants_41 (by decide) ?_
      refine x_iload_n dX9_wants_43 rfl ?_
      refine x_iadd dX9_wants_44 ?_
      refine s_iald dX9_wants_45 (rfl) (hi := nI_add 11 k) (hj := by omega) (hn := by decide) ?_
      exact s_iret dX9_wants_46 rfl (by simp_all)
    · refine x_iconst (v := 2) dX9_wants_23 (by decide) ?_
      refine x_aload_n dX9_wants_24 rfl ?_
      refine s_getr (ci := 9) (k := 2) (N := 20) (C := RX9) (T := TX9) dX9_wants_25 lfX9_13 inX9 rfl (by decide) (rfl) rfl ?_
      refine x_bipush (v := 11) dX9_wants_28 (by decide) ?_
      refine x_iload_n dX9_wants_30 rfl ?_
      refine x_iadd dX9_wants_31 ?_
      refine s_iald dX9_wants_32 (rfl) (hi := nI_add 11 k) (hj := by omega) (hn := by decide) ?_
      refine x_imul dX9_wants_33 ?_
      refine x_goto (tgt := 46) dX9_wants_34 (by decide) ?_
      exact s_iret dX9_wants_46 rfl (by simp_all)
  · refine x_iconst (v := 0) dX9_wants_14 (by decide) ?_
    refine x_goto (tgt := 46) dX9_wants_15 (by decide) ?_
    exact s_iret dX9_wants_46 rfl (by simp_all)
set_option maxRecDepth 100000 in
/-- driestBut: the loop -/
theorem l_driestBut (σ : Sg) {n : Nat} {but : Int32} (hn : σ 83 0 = nI n) (hn8 : n ≤ 8) : ∀ (j k : Nat), k + j = n → 
    Ex (YX9_driestBut, 0, xB0, none) 4 [.ref 81, .int but, .int (drF (σ 85) but k), .int (nI k)] [] (xMs σ) (xQ (fun v σ' => v = some (.int (drF (σ 85) but n)) ∧ σ' = σ)) := by
  intro j
  induction j with
  | zero =>
    intro k hk
    have hk : k = n := by omega
    subst hk
    refine x_iload_n dX9_driestBut_4 rfl ?_
    refine x_aload_n dX9_driestBut_5 rfl ?_
    refine s_getr (ci := 9) (k := 2) (N := 20) (C := RX9) (T := TX9) dX9_driestBut_6 lfX9_13 inX9 rfl (by decide) (rfl) rfl ?_
    refine x_iconst (v := 0) dX9_driestBut_9 (by decide) ?_
    refine s_iald dX9_driestBut_10 (rfl) (j := 0) (hi := by decide) (hj := by omega) (hn := by decide) ?_
    refine x_icmp_ge (tgt := 51) dX9_driestBut_11 (by decide) (fun c_11 => ?_) (fun c_11 => (absurd (by rw [hn]; exact Int32.le_refl _) c_11))
    refine x_iload_n dX9_driestBut_51 rfl ?_
    exact s_iret dX9_driestBut_52 rfl (⟨rfl, rfl⟩)
  | succ j ih =>
    intro k hk
    have hkn : k < n := by omega
    have step : ∀ (x : Int32), x = drF (σ 85) but (k + 1) → Ex (YX9_driestBut, 0, xB0, none) 4 [.ref 81, .int but, .int x, .int (nI (k + 1))] [] (xMs σ) (xQ (fun v σ' => v = some (.int (drF (σ 85) but n)) ∧ σ' = σ)) := fun x hx => by
      subst hx
      exact ih (k + 1) (by omega)
    refine x_iload_n dX9_driestBut_4 rfl ?_
    refine x_aload_n dX9_driestBut_5 rfl ?_
    refine s_getr (ci := 9) (k := 2) (N := 20) (C := RX9) (T := TX9) dX9_driestBut_6 lfX9_13 inX9 rfl (by decide) (rfl) rfl ?_
    refine x_iconst (v := 0) dX9_driestBut_9 (by decide) ?_
    refine s_iald dX9_driestBut_10 (rfl) (j := 0) (hi := by decide) (hj := by omega) (hn := by decide) ?_
    refine x_icmp_ge (tgt := 51) dX9_driestBut_11 (by decide) (fun c_11 => (absurd c_11 (by rw [hn]; exact nI_ge hkn (by omega)))) (fun c_11 => ?_)
    refine x_iload_n dX9_driestBut_14 rfl ?_
    refine x_iload_n dX9_driestBut_15 rfl ?_
    refine x_icmp_eq (tgt := 43) dX9_driestBut_16 (by decide) (fun c_16 => ?_) (fun c_16 => ?_)
    · refine x_iload_n dX9_driestBut_43 rfl ?_
      refine x_istore_n dX9_driestBut_44 (Nat.le_of_ble_eq_true rfl) rfl ?_
      refine s_iinc dX9_driestBut_45 rfl (Nat.le_of_ble_eq_true rfl) rfl ?_
      refine x_goto (tgt := 4) dX9_driestBut_48 (by decide) ?_
      first | exact step _ (drF_s1 c_16).symm | exact step _ (drF_s2 c_21 (by rw [hde, nI_clamp (by omega)]; exact c_36)).symm | exact step _ (drF_t (w := σ 85) (but := but) c_16 (Or.inl c_21)).symm | exact step _ (drF_t (w := σ 85) (but := but) c_16 (Or.inr (by rw [hde, nI_clamp (by omega)]; exact Int32.not_le.mp c_36))).symm
    · refine x_iload_n dX9_driestBut_19 rfl ?_
      refine x_iconst (v := -1) dX9_driestBut_20 (by decide) ?_
      refine x_icmp_eq (tgt := 39) dX9_driestBut_21 (by decide) (fun c_21 => ?_) (fun c_21 => ?_)
      · refine x_iload_n dX9_driestBut_39 rfl ?_
        refine x_goto (tgt := 44) dX9_driestBut_40 (by decide) ?_
        refine x_istore_n dX9_driestBut_44 (Nat.le_of_ble_eq_true rfl) rfl ?_
        refine s_iinc dX9_driestBut_45 rfl (Nat.le_of_ble_eq_true rfl) rfl ?_
        refine x_goto (tgt := 4) dX9_driestBut_48 (by decide) ?_
        first | exact step _ (drF_s1 c_16).symm | exact step _ (drF_s2 c_21 (by rw [hde, nI_clamp (by omega)]; exact c_36)).symm | exact step _ (drF_t (w := σ 85) (but := but) c_16 (Or.inl c_21)).symm | exact step _ (drF_t (w := σ 85) (but := but) c_16 (Or.inr (by rw [hde, nI_clamp (by omega)]; exact Int32.not_le.mp c_36))).symm
      · obtain ⟨d, hd, hde⟩ := (drF_in (σ 85) but k).resolve_left c_21
        refine x_aload_n dX9_driestBut_24 rfl ?_
        refine s_getr (ci := 9) (k := 4) (N := 20) (C := RX9) (T := TX9) dX9_driestBut_25 lfX9_19 inX9 rfl (by decide) (rfl) rfl ?_
        refine x_iload_n dX9_driestBut_28 rfl ?_
        refine s_iald dX9_driestBut_29 (rfl) (hi := rfl) (hj := by omega) (hn := by decide) ?_
        refine x_aload_n dX9_driestBut_30 rfl ?_
        refine s_getr (ci := 9) (k := 4) (N := 20) (C := RX9) (T := TX9) dX9_driestBut_31 lfX9_19 inX9 rfl (by decide) (rfl) rfl ?_
        refine x_iload_n dX9_driestBut_34 rfl ?_
        refine s_iald dX9_driestBut_35 (rfl) (hi := hde) (hj := by omega) (hn := by decide) ?_
        refine x_icmp_ge (tgt := 43) dX9_driestBut_36 (by decide) (fun c_36 => ?_) (fun c_36 => ?_)
        · refine x_iload_n dX9_driestBut_43 rfl ?_
          refine x_istore_n dX9_driestBut_44 (Nat.le_of_ble_eq_true rfl) rfl ?_
          refine s_iinc dX9_driestBut_45 rfl (Nat.le_of_ble_eq_true rfl) rfl ?_
          refine x_goto (tgt := 4) dX9_driestBut_48 (by decide) ?_
          first | exact step _ (drF_s1 c_16).symm | exact step _ (drF_s2 c_21 (by rw [hde, nI_clamp (by omega)]; exact c_36)).symm | exact step _ (drF_t (w := σ 85) (but := but) c_16 (Or.inl c_21)).symm | exact step _ (drF_t (w := σ 85) (but := but) c_16 (Or.inr (by rw [hde, nI_clamp (by omega)]; exact Int32.not_le.mp c_36))).symm
        · refine x_iload_n dX9_driestBut_39 rfl ?_
          refine x_goto (tgt := 44) dX9_driestBut_40 (by decide) ?_
          refine x_istore_n dX9_driestBut_44 (Nat.le_of_ble_eq_true rfl) rfl ?_
          refine s_iinc dX9_driestBut_45 rfl (Nat.le_of_ble_eq_true rfl) rfl ?_
          refine x_goto (tgt := 4) dX9_driestBut_48 (by decide) ?_
          first | exact step _ (drF_s1 c_16).symm | exact step _ (drF_s2 c_21 (by rw [hde, nI_clamp (by omega)]; exact c_36)).symm | exact step _ (drF_t (w := σ 85) (but := but) c_16 (Or.inl c_21)).symm | exact step _ (drF_t (w := σ 85) (but := but) c_16 (Or.inr (by rw [hde, nI_clamp (by omega)]; exact Int32.not_le.mp c_36))).symm
theorem k_driestBut (σ : Sg) {n : Nat} (but : Int32) (hn : σ 83 0 = nI n) (hn8 : n ≤ 8) : Cm 0 YX9_driestBut [.ref 81, .int but] σ (fun v σ' => v = some (.int (drF (moS n σ).1 but n)) ∧ σ' = σ) := by
  refine Cm_of (by decide +kernel) (Nat.le_of_ble_eq_true rfl) ?_
  rw [show drF (moS n σ).1 but n = drF (σ 85) but n from (drF_tr (by omega)).symm]
  refine x_iconst (v := -1) dX9_driestBut_0 (by decide) ?_
  refine x_istore_n dX9_driestBut_1 (Nat.le_of_ble_eq_true rfl) rfl ?_
  refine x_iconst (v := 0) dX9_driestBut_2 (by decide) ?_
  refine x_istore_n dX9_driestBut_3 (Nat.le_of_ble_eq_true rfl) rfl ?_
  exact l_driestBut σ hn hn8 n 0 (by omega)
set_option maxRecDepth 100000 in
theorem k_mchoice (σ : Sg) {n k : Nat} (hn : σ 83 0 = nI n) (hn8 : n ≤ 8) (hk : k < n) : Cm 1 YX9_choice [.ref 81, .int (nI k)] σ (fun v σ' => v = some (.int (chF (plM n σ 83) (moS n σ).1 k)) ∧ σ' = σ) := by
  refine Cm_of (by decide +kernel) (Nat.le_of_ble_eq_true rfl) ?_
  have e : (plM n σ 83).2.2.2.1 k = σ 83 (3 + k) := tr_i (f := fun i => σ 83 (3 + i)) hk
  have e3 : (moS n σ).1 k = σ 85 k := tr_i hk
  have key : ∀ x : Int32, x = chF (plM n σ 83) (moS n σ).1 k → some (Value.int x) = some (.int (chF (plM n σ 83) (moS n σ).1 k)) ∧ σ = σ := fun x h => ⟨by rw [h], rfl⟩
  refine x_aload_n dX9_choice_0 rfl ?_
  refine s_getr (ci := 9) (k := 2) (N := 20) (C := RX9) (T := TX9) dX9_choice_1 lfX9_13 inX9 rfl (by decide) (rfl) rfl ?_
  refine x_iconst (v := 3) dX9_choice_4 (by decide) ?_
  refine x_iload_n dX9_choice_5 rfl ?_
  refine x_iadd dX9_choice_6 ?_
  refine s_iald dX9_choice_7 (rfl) (hi := nI_add 3 k) (hj := by omega) (hn := by decide) ?_
  refine x_istore_n dX9_choice_8 (Nat.le_of_ble_eq_true rfl) rfl ?_
  refine x_iload_n dX9_choice_9 rfl ?_
  refine x_iconst (v := 2) dX9_choice_10 (by decide) ?_
  refine x_icmp_ne (tgt := 16) dX9_choice_11 (by decide) (fun c_11 => ?_) (fun c_11 => ?_)
  · refine x_iload_n dX9_choice_16 rfl ?_
    refine x_iconst (v := 3) dX9_choice_17 (by decide) ?_
    refine x_icmp_ne (tgt := 29) dX9_choice_18 (by decide) (fun c_18 => ?_) (fun c_18 => ?_)
    · refine x_aload_n dX9_choice_29 rfl ?_
      refine s_getr (ci := 9) (k := 4) (N := 20) (C := RX9) (T := TX9) dX9_choice_30 lfX9_19 inX9 rfl (by decide) (rfl) rfl ?_
      refine x_iload_n dX9_choice_33 rfl ?_
      refine s_iald dX9_choice_34 (rfl) (hi := rfl) (hj := by omega) (hn := by decide) ?_
      refine x_aload_n dX9_choice_35 rfl ?_
      refine x_iload_n dX9_choice_36 rfl ?_
      refine s_callV dX9_choice_37 (k_mwants σ hn8 hk) rfl w_X9_wants lmX9_114 im_X9_wants se_X9_wants rfl (rfl) rfl (Nat.le_of_ble_eq_true rfl) rfl (by decide) (fun v_37 σ_37 h_37 => ?_)
      obtain ⟨rfl, z_37⟩ := h_37
      have z_37 := z_37.symm
      subst z_37
      rw [← e3]
      refine x_icmp_ge (tgt := 47) dX9_choice_40 (by decide) (fun c_40 => ?_) (fun c_40 => ?_)
      · refine x_aload_n dX9_choice_47 rfl ?_
        refine x_iconst (v := -1) dX9_choice_48 (by decide) ?_
        refine s_callV dX9_choice_49 (k_driestBut σ _ hn hn8) rfl w_X9_driestBut lmX9_111 im_X9_driestBut se_X9_driestBut rfl (rfl) rfl (Nat.le_of_ble_eq_true rfl) rfl (by decide) (fun v_49 σ_49 h_49 => ?_)
        obtain ⟨rfl, z_49⟩ := h_49
        have z_49 := z_49.symm
        subst z_49
        exact s_iret dX9_choice_52 rfl (by
            refine key _ ?_
            unfold chF
            rw [e]
            first
              | (rw [if_pos (by assumption)]; done)
              | (rw [if_neg c_11, if_pos c_18]; rfl)
              | (rw [if_neg c_11, if_neg c_18, if_pos (show saF (moS n σ).1 (plM n σ 83).2.2.2.1 (plM n σ 83).2.2.2.2.1 k = true by unfold saF; rw [decide_eq_false (Int32.not_lt.mpr c_40)]; rfl)]; rfl)
              | (rw [if_neg c_11, if_neg c_18, if_neg (show ¬ saF (moS n σ).1 (plM n σ 83).2.2.2.1 (plM n σ 83).2.2.2.2.1 k = true by unfold saF; rw [decide_eq_true (Int32.not_le.mp c_40)]; decide)]))
      · refine x_iload_n dX9_choice_43 rfl ?_
        refine x_goto (tgt := 52) dX9_choice_44 (by decide) ?_
        exact s_iret dX9_choice_52 rfl (by
            refine key _ ?_
            unfold chF
            rw [e]
            first
              | (rw [if_pos (by assumption)]; done)
              | (rw [if_neg c_11, if_pos c_18]; rfl)
              | (rw [if_neg c_11, if_neg c_18, if_pos (show saF (moS n σ).1 (plM n σ 83).2.2.2.1 (plM n σ 83).2.2.2.2.1 k = true by unfold saF; rw [decide_eq_false (Int32.not_lt.mpr c_40)]; rfl)]; rfl)
              | (rw [if_neg c_11, if_neg c_18, if_neg (show ¬ saF (moS n σ).1 (plM n σ 83).2.2.2.1 (plM n σ 83).2.2.2.2.1 k = true by unfold saF; rw [decide_eq_true (Int32.not_le.mp c_40)]; decide)]))
    · refine x_aload_n dX9_choice_21 rfl ?_
      refine x_iload_n dX9_choice_22 rfl ?_
      refine s_callV dX9_choice_23 (k_driestBut σ _ hn hn8) rfl w_X9_driestBut lmX9_111 im_X9_driestBut se_X9_driestBut rfl (rfl) rfl (Nat.le_of_ble_eq_true rfl) rfl (by decide) (fun v_23 σ_23 h_23 => ?_)
      obtain ⟨rfl, z_23⟩ := h_23
      have z_23 := z_23.symm
      subst z_23
      refine x_goto (tgt := 52) dX9_choice_26 (by decide) ?_
      exact s_iret dX9_choice_52 rfl (by
          refine key _ ?_
          unfold chF
          rw [e]
          first
            | (rw [if_pos (by assumption)]; done)
            | (rw [if_neg c_11, if_pos c_18]; rfl)
            | (rw [if_neg c_11, if_neg c_18, if_pos (show saF (moS n σ).1 (plM n σ 83).2.2.2.1 (plM n σ 83).2.2.2.2.1 k = true by unfold saF; rw [decide_eq_false (Int32.not_lt.mpr c_40)]; rfl)]; rfl)
            | (rw [if_neg c_11, if_neg c_18, if_neg (show ¬ saF (moS n σ).1 (plM n σ 83).2.2.2.1 (plM n σ 83).2.2.2.2.1 k = true by unfold saF; rw [decide_eq_true (Int32.not_le.mp c_40)]; decide)]))
  · refine x_iconst (v := -1) dX9_choice_14 (by decide) ?_
    exact s_iret dX9_choice_15 rfl (by
        refine key _ ?_
        unfold chF
        rw [e]
        first
          | (rw [if_pos (by assumption)]; done)
          | (rw [if_neg c_11, if_pos c_18]; rfl)
          | (rw [if_neg c_11, if_neg c_18, if_pos (show saF (moS n σ).1 (plM n σ 83).2.2.2.1 (plM n σ 83).2.2.2.2.1 k = true by unfold saF; rw [decide_eq_false (Int32.not_lt.mpr c_40)]; rfl)]; rfl)
          | (rw [if_neg c_11, if_neg c_18, if_neg (show ¬ saF (moS n σ).1 (plM n σ 83).2.2.2.1 (plM n σ 83).2.2.2.2.1 k = true by unfold saF; rw [decide_eq_true (Int32.not_le.mp c_40)]; decide)]))
set_option maxRecDepth 100000 in
theorem l_counts1 {n : Nat} {V2 : Value} (σ0 : Sg) (P : Option Value → Sg → Prop) (hk : ∀ V : FN, (∀ i, i < 8 → V i = 0) → Ex (YX9_counts, 2, xB0, none) 23 [.ref 81, .int (nI 0), V2] [] (xMs (sw σ0 90 V)) (xQ P)) : ∀ (j k : Nat) (V : FN), k + j = 8 → (∀ i, i < k → V i = 0) →
    Ex (YX9_counts, 2, xB0, none) 2 [.ref 81, .int (nI k), V2] [] (xMs (sw σ0 90 V)) (xQ P) := by
  intro j
  induction j with
  | zero =>
    intro k V hk0 hV
    have hk1 : k = 8 := by omega
    subst hk1
    refine x_iload_n dX9_counts_2 rfl ?_
    refine x_bipush (v := 8) dX9_counts_3 (by decide) ?_
    refine x_icmp_ge (tgt := 21) dX9_counts_5 (by decide) (fun c_5 => ?_) (fun c_5 => (absurd (by decide) c_5))
    refine x_iconst (v := 0) dX9_counts_21 (by decide) ?_
    refine x_istore_n dX9_counts_22 (Nat.le_of_ble_eq_true rfl) rfl ?_
    exact hk V hV
  | succ j ih =>
    intro k V hk0 hV
    have hkn : k < 8 := by omega
    refine x_iload_n dX9_counts_2 rfl ?_
    refine x_bipush (v := 8) dX9_counts_3 (by decide) ?_
    refine x_icmp_ge (tgt := 21) dX9_counts_5 (by decide) (fun c_5 => (absurd c_5 (show ¬ nI 8 ≤ nI k from nI_ge hkn (by omega)))) (fun c_5 => ?_)
    refine x_aload_n dX9_counts_8 rfl ?_
    refine s_getr (ci := 9) (k := 15) (N := 20) (C := RX9) (T := TX9) dX9_counts_9 lfX9_35 inX9 rfl (by decide) (rfl) rfl ?_
    refine x_iload_n dX9_counts_12 rfl ?_
    refine x_iconst (v := 0) dX9_counts_13 (by decide) ?_
    refine s_iast dX9_counts_14 (rfl) (hi := rfl) (hj := by omega) (hn := by decide) ?_
    refine s_iinc dX9_counts_15 rfl (Nat.le_of_ble_eq_true rfl) rfl ?_
    refine x_goto (tgt := 2) dX9_counts_18 (by decide) ?_
    rw [sg_def _ 90, sw_sw, sw_s]
    refine ih (k + 1) _ (by omega) (fun i hi => ?_)
    unfold upd
    by_cases e : i = k
    · rw [if_pos e]
    · rw [if_neg e]
      exact hV i (by omega)
set_option maxRecDepth 100000 in
set_option maxHeartbeats 1000000 in
theorem l_counts2 {n home turned : Nat} {toward : Int32} (hn8 : n ≤ 8) (hho : home < 256) (htu : turned < 256) (htw : toward = -1 ∨ inb n toward = true) (σ0 : Sg) (h0n : σ0 83 0 = nI n) (h16 : σ0 81 16 = nI home) (h17 : σ0 81 17 = nI turned) (h18 : σ0 81 18 = toward) : ∀ (j k : Nat) (V : FN) (V2 : Value), k + j = n → (∀ i, i < n → V i = voF n (chF (plM n σ0 83) (moS n σ0).1) (moS n σ0).2.1 (moS n σ0).2.2.1 home turned toward k i) →
    Ex (YX9_counts, 2, xB0, none) 23 [.ref 81, .int (nI k), V2] [] (xMs (sw σ0 90 V)) (xQ (fun v σ' => v = none ∧ ∃ V', (∀ i, i < n → V' i = voF n (chF (plM n σ0 83) (moS n σ0).1) (moS n σ0).2.1 (moS n σ0).2.2.1 home turned toward n i) ∧ σ' = sw σ0 90 V')) := by
  intro j
  induction j with
  | zero =>
    intro k V V2 hk hV
    have hk : k = n := by omega
    subst hk
    have hn : sw σ0 90 V 83 0 = nI k := h0n
    refine x_iload_n dX9_counts_23 rfl ?_
    refine x_aload_n dX9_counts_24 rfl ?_
    refine s_getr (ci := 9) (k := 2) (N := 20) (C := RX9) (T := TX9) dX9_counts_25 lfX9_13 inX9 rfl (by decide) (rfl) rfl ?_
    refine x_iconst (v := 0) dX9_counts_28 (by decide) ?_
    refine s_iald dX9_counts_29 (rfl) (j := 0) (hi := by decide) (hj := by omega) (hn := by decide) ?_
    refine x_icmp_ge (tgt := 109) dX9_counts_30 (by decide) (fun c_30 => ?_) (fun c_30 => (absurd (by rw [hn]; exact Int32.le_refl _) c_30))
    exact s_ret dX9_counts_109 rfl (⟨rfl, V, hV, rfl⟩)
  | succ j ih =>
    intro k V V2 hk hV
    have hkn : k < n := by omega
    have hn : sw σ0 90 V 83 0 = nI n := h0n
    have h16 : sw σ0 90 V 81 16 = nI home := h16
    have h17 : sw σ0 90 V 81 17 = nI turned := h17
    have h18 : sw σ0 90 V 81 18 = toward := h18
    have evo : sw σ0 90 V 85 (8 + k) = (moS n σ0).2.1 k := (tr_i (f := fun i => σ0 85 (8 + i)) hkn).symm
    have era : sw σ0 90 V 85 17 = (moS n σ0).2.2.1 := rfl
    have kc : Cm 1 YX9_choice [.ref 81, .int (nI k)] (sw σ0 90 V) (fun v σ' => v = some (.int (chF (plM n σ0 83) (moS n σ0).1 k)) ∧ σ' = sw σ0 90 V) := k_mchoice (sw σ0 90 V) hn hn8 hkn
    generalize hch : chF (plM n σ0 83) (moS n σ0).1 = ch at *
    generalize hvo : (moS n σ0).2.1 = vo at *
    generalize hra : (moS n σ0).2.2.1 = ra at *
    have hci : ch k = -1 ∨ inb n (ch k) = true := by rw [← hch]; exact chF_inb (p := plM n σ0 83) (by show n ≤ 1000; omega) hkn
    have skip : ∀ (V2 : Value), ¬ (home.testBit k = false ∧ ¬ toF ch turned toward k = ra ∧ inb n (toF ch turned toward k) = true) → Ex (YX9_counts, 2, xB0, none) 23 [.ref 81, .int (nI (k + 1)), V2] [] (xMs (sw σ0 90 V)) (xQ (fun v σ' => v = none ∧ ∃ V', (∀ i, i < n → V' i = voF n ch vo ra home turned toward n i) ∧ σ' = sw σ0 90 V')) := fun V2 h => ih (k + 1) V V2 (by omega) (fun i hi => by rw [voF_n h]; exact hV i hi)
    have take : ∀ (V2 : Value) (a : Nat), home.testBit k = false → ¬ toF ch turned toward k = ra → a < n → toF ch turned toward k = nI a → Ex (YX9_counts, 2, xB0, none) 23 [.ref 81, .int (nI (k + 1)), V2] [] (xMs (sw σ0 90 (upd V a (V a + vo k)))) (xQ (fun v σ' => v = none ∧ ∃ V', (∀ i, i < n → V' i = voF n ch vo ra home turned toward n i) ∧ σ' = sw σ0 90 V')) := fun V2 a h1 h2 h3 h4 => ih (k + 1) _ V2 (by omega) (fun i hi => by
      rw [voF_s h1 h2 h3 (by omega) h4]
      unfold upd
      by_cases e : i = a
      · rw [if_pos e, if_pos e, hV a h3]
      · rw [if_neg e, if_neg e, hV i hi])
    have bt := bz_bit (a := turned) (k := k) (by omega) (by omega)
    have bh := bz_bit (a := home) (k := k) (by omega) (by omega)
    have key : ∀ t : Int32, t = toF ch turned toward k → Ex (YX9_counts, 2, xB0, none) 57 [.ref 81, .int (nI k), V2] [.int t] (xMs (sw σ0 90 V)) (xQ (fun v σ' => v = none ∧ ∃ V', (∀ i, i < n → V' i = voF n ch vo ra home turned toward n i) ∧ σ' = sw σ0 90 V')) := by
      intro t ht
      have hti : t = -1 ∨ inb n t = true := by
        rw [ht]
        unfold toF
        split
        · exact htw
        · exact hci
      refine x_istore_n dX9_counts_57 (Nat.le_of_ble_eq_true rfl) rfl ?_
      refine x_iload_n dX9_counts_58 rfl ?_
      refine x_iconst (v := -1) dX9_counts_59 (by decide) ?_
      refine x_icmp_eq (tgt := 103) dX9_counts_60 (by decide) (fun c_60 => ?_) (fun c_60 => ?_)
      · skip
        refine s_iinc dX9_counts_103 rfl (Nat.le_of_ble_eq_true rfl) rfl ?_
        refine x_goto (tgt := 23) dX9_counts_106 (by decide) ?_
        first
          | exact skip _ (fun h => by rw [← ht, c_60, inb_m1] at h; exact Bool.noConfusion h.2.2)
          | exact skip _ (fun h => h.2.1 (ht.symm.trans c_71))
          | exact skip _ (fun h => by rw [bI_0] at c_82; exact absurd h.1 c_82)
          | (rw [sg_def _ 90, sw_sw, sw_s]; exact take _ a (bI_0.mp c_82) (fun h => c_71 (ht.trans h)) ha ht.symm)
      · refine x_iload_n dX9_counts_63 rfl ?_
        refine x_aload_n dX9_counts_64 rfl ?_
        refine s_getr (ci := 9) (k := 4) (N := 20) (C := RX9) (T := TX9) dX9_counts_65 lfX9_19 inX9 rfl (by decide) (rfl) rfl ?_
        refine x_bipush (v := 17) dX9_counts_68 (by decide) ?_
        refine s_iald dX9_counts_70 (rfl) (j := 17) (hi := by decide) (hj := by omega) (hn := by decide) ?_
        rw [era]
        refine x_icmp_eq (tgt := 103) dX9_counts_71 (by decide) (fun c_71 => ?_) (fun c_71 => ?_)
        · skip
          refine s_iinc dX9_counts_103 rfl (Nat.le_of_ble_eq_true rfl) rfl ?_
          refine x_goto (tgt := 23) dX9_counts_106 (by decide) ?_
          first
            | exact skip _ (fun h => by rw [← ht, c_60, inb_m1] at h; exact Bool.noConfusion h.2.2)
            | exact skip _ (fun h => h.2.1 (ht.symm.trans c_71))
            | exact skip _ (fun h => by rw [bI_0] at c_82; exact absurd h.1 c_82)
            | (rw [sg_def _ 90, sw_sw, sw_s]; exact take _ a (bI_0.mp c_82) (fun h => c_71 (ht.trans h)) ha ht.symm)
        · refine x_aload_n dX9_counts_74 rfl ?_
          refine s_geti (ci := 9) (k := 16) (N := 20) (C := RX9) (T := TX9) dX9_counts_75 lfX9_123 inX9 rfl (by decide) (rfl) rfl ?_
          refine x_iload_n dX9_counts_78 rfl ?_
          rw [h16]
          refine x_ishr dX9_counts_79 ?_
          refine x_iconst (v := 1) dX9_counts_80 (by decide) ?_
          refine x_iand dX9_counts_81 ?_
          rw [bh]
          refine x_if_ne (tgt := 103) dX9_counts_82 (by decide) (fun c_82 => ?_) (fun c_82 => ?_)
          · skip
            refine s_iinc dX9_counts_103 rfl (Nat.le_of_ble_eq_true rfl) rfl ?_
            refine x_goto (tgt := 23) dX9_counts_106 (by decide) ?_
            first
              | exact skip _ (fun h => by rw [← ht, c_60, inb_m1] at h; exact Bool.noConfusion h.2.2)
              | exact skip _ (fun h => h.2.1 (ht.symm.trans c_71))
              | exact skip _ (fun h => by rw [bI_0] at c_82; exact absurd h.1 c_82)
              | (rw [sg_def _ 90, sw_sw, sw_s]; exact take _ a (bI_0.mp c_82) (fun h => c_71 (ht.trans h)) ha ht.symm)
          · obtain ⟨a, ha, rfl⟩ : ∃ a, a < n ∧ t = nI a := inb_t (by omega) (hti.resolve_left c_60)
            refine x_aload_n dX9_counts_85 rfl ?_
            refine s_getr (ci := 9) (k := 15) (N := 20) (C := RX9) (T := TX9) dX9_counts_86 lfX9_35 inX9 rfl (by decide) (rfl) rfl ?_
            refine x_iload_n dX9_counts_89 rfl ?_
            refine x_dup2 dX9_counts_90 rfl rfl ?_
            refine s_iald dX9_counts_91 (rfl) (hi := rfl) (hj := by omega) (hn := by decide) ?_
            refine x_aload_n dX9_counts_92 rfl ?_
            refine s_getr (ci := 9) (k := 4) (N := 20) (C := RX9) (T := TX9) dX9_counts_93 lfX9_19 inX9 rfl (by decide) (rfl) rfl ?_
            refine x_bipush (v := 8) dX9_counts_96 (by decide) ?_
            refine x_iload_n dX9_counts_98 rfl ?_
            refine x_iadd dX9_counts_99 ?_
            refine s_iald dX9_counts_100 (rfl) (hi := nI_add 8 k) (hj := by omega) (hn := by decide) ?_
            rw [evo]
            refine x_iadd dX9_counts_101 ?_
            refine s_iast dX9_counts_102 (rfl) (hi := rfl) (hj := by omega) (hn := by decide) ?_
            skip
            refine s_iinc dX9_counts_103 rfl (Nat.le_of_ble_eq_true rfl) rfl ?_
            refine x_goto (tgt := 23) dX9_counts_106 (by decide) ?_
            first
              | exact skip _ (fun h => by rw [← ht, c_60, inb_m1] at h; exact Bool.noConfusion h.2.2)
              | exact skip _ (fun h => h.2.1 (ht.symm.trans c_71))
              | exact skip _ (fun h => by rw [bI_0] at c_82; exact absurd h.1 c_82)
              | (rw [sg_def _ 90, sw_sw, sw_s]; exact take _ a (bI_0.mp c_82) (fun h => c_71 (ht.trans h)) ha ht.symm)
    refine x_iload_n dX9_counts_23 rfl ?_
    refine x_aload_n dX9_counts_24 rfl ?_
    refine s_getr (ci := 9) (k := 2) (N := 20) (C := RX9) (T := TX9) dX9_counts_25 lfX9_13 inX9 rfl (by decide) (rfl) rfl ?_
    refine x_iconst (v := 0) dX9_counts_28 (by decide) ?_
    refine s_iald dX9_counts_29 (rfl) (j := 0) (hi := by decide) (hj := by omega) (hn := by decide) ?_
    refine x_icmp_ge (tgt := 109) dX9_counts_30 (by decide) (fun c_30 => (absurd c_30 (by rw [hn]; exact nI_ge hkn (by omega)))) (fun c_30 => ?_)
    refine x_aload_n dX9_counts_33 rfl ?_
    refine s_geti (ci := 9) (k := 17) (N := 20) (C := RX9) (T := TX9) dX9_counts_34 lfX9_117 inX9 rfl (by decide) (rfl) rfl ?_
    refine x_iload_n dX9_counts_37 rfl ?_
    rw [h17]
    refine x_ishr dX9_counts_38 ?_
    refine x_iconst (v := 1) dX9_counts_39 (by decide) ?_
    refine x_iand dX9_counts_40 ?_
    refine x_iconst (v := 1) dX9_counts_41 (by decide) ?_
    rw [bt]
    refine x_icmp_ne (tgt := 52) dX9_counts_42 (by decide) (fun c_42 => ?_) (fun c_42 => ?_)
    · refine x_aload_n dX9_counts_52 rfl ?_
      refine x_iload_n dX9_counts_53 rfl ?_
      refine s_callV dX9_counts_54 (kc) rfl w_X9_choice lmX9_120 im_X9_choice se_X9_choice rfl (rfl) rfl (Nat.le_of_ble_eq_true rfl) rfl (by decide) (fun v_54 σ_54 h_54 => ?_)
      obtain ⟨rfl, z_54⟩ := h_54
      have z_54 := z_54.symm
      subst z_54
      first
        | exact key _ (by unfold toF; rw [if_neg (fun h => c_42 (by rw [h]; rfl))])
        | exact key _ (by unfold toF; rw [if_pos (bI_1.mp c_42)]; exact h18)
    · refine x_aload_n dX9_counts_45 rfl ?_
      refine s_geti (ci := 9) (k := 18) (N := 20) (C := RX9) (T := TX9) dX9_counts_46 lfX9_38 inX9 rfl (by decide) (rfl) rfl ?_
      refine x_goto (tgt := 57) dX9_counts_49 (by decide) ?_
      first
        | exact key _ (by unfold toF; rw [if_neg (fun h => c_42 (by rw [h]; rfl))])
        | exact key _ (by unfold toF; rw [if_pos (bI_1.mp c_42)]; exact h18)
set_option maxRecDepth 100000 in
theorem k_counts (σ : Sg) {n home turned : Nat} {toward : Int32} (hn : σ 83 0 = nI n) (hn8 : n ≤ 8) (hho : home < 256) (htu : turned < 256) (htw : toward = -1 ∨ inb n toward = true) (h16 : σ 81 16 = nI home) (h17 : σ 81 17 = nI turned) (h18 : σ 81 18 = toward) : Cm 2 YX9_counts [.ref 81] σ (fun v σ' => v = none ∧ ∃ V', (∀ i, i < n → V' i = voF n (chF (plM n σ 83) (moS n σ).1) (moS n σ).2.1 (moS n σ).2.2.1 home turned toward n i) ∧ σ' = sw σ 90 V') := by
  refine Cm_of (by decide +kernel) (Nat.le_of_ble_eq_true rfl) ?_
  refine x_iconst (v := 0) dX9_counts_0 (by decide) ?_
  refine x_istore_n dX9_counts_1 (Nat.le_of_ble_eq_true rfl) rfl ?_
  have h := l_counts1 (n := n) (V2 := .null) σ _ (fun V hV => l_counts2 (toward := toward) (home := home) (turned := turned) hn8 hho htu htw σ hn h16 h17 h18 n 0 V _ (by omega) (fun i hi => hV i (by omega))) 8 0 (σ 90) (by omega) (fun i hi => by omega)
  rw [sw_id] at h
  exact h
set_option maxRecDepth 100000 in
theorem l_carried (σ : Sg) {n : Nat} (hn : σ 83 0 = nI n) (hn8 : n ≤ 8) : ∀ (j k : Nat), k + j = n → Ex (YX9_carried, 3, xB0, none) 10 [.ref 81, .int (wnF (σ 90) k).1, .int (wnF (σ 90) k).2, .int (nI k)] [] (xMs σ) (xQ (fun v σ' => v = some (.int (wnF (σ 90) n).1) ∧ σ' = σ)) := by
  intro j
  induction j with
  | zero =>
    intro k hk
    have hk : k = n := by omega
    subst hk
    refine x_iload_n dX9_carried_10 rfl ?_
    refine x_aload_n dX9_carried_11 rfl ?_
    refine s_getr (ci := 9) (k := 2) (N := 20) (C := RX9) (T := TX9) dX9_carried_12 lfX9_13 inX9 rfl (by decide) (rfl) rfl ?_
    refine x_iconst (v := 0) dX9_carried_15 (by decide) ?_
    refine s_iald dX9_carried_16 (rfl) (j := 0) (hi := by decide) (hj := by omega) (hn := by decide) ?_
    refine x_icmp_ge (tgt := 77) dX9_carried_17 (by decide) (fun c_17 => ?_) (fun c_17 => (absurd (by rw [hn]; exact Int32.le_refl _) c_17))
    refine x_iload_n dX9_carried_77 rfl ?_
    exact s_iret dX9_carried_78 rfl (⟨rfl, rfl⟩)
  | succ j ih =>
    intro k hk
    have hkn : k < n := by omega
    have step : ∀ x y : Int32, wnF (σ 90) (k + 1) = (x, y) → Ex (YX9_carried, 3, xB0, none) 10 [.ref 81, .int x, .int y, .int (nI (k + 1))] [] (xMs σ) (xQ (fun v σ' => v = some (.int (wnF (σ 90) n).1) ∧ σ' = σ)) := fun x y hx => by
      have h := ih (k + 1) (by omega)
      rw [hx] at h
      exact h
    refine x_iload_n dX9_carried_10 rfl ?_
    refine x_aload_n dX9_carried_11 rfl ?_
    refine s_getr (ci := 9) (k := 2) (N := 20) (C := RX9) (T := TX9) dX9_carried_12 lfX9_13 inX9 rfl (by decide) (rfl) rfl ?_
    refine x_iconst (v := 0) dX9_carried_15 (by decide) ?_
    refine s_iald dX9_carried_16 (rfl) (j := 0) (hi := by decide) (hj := by omega) (hn := by decide) ?_
    refine x_icmp_ge (tgt := 77) dX9_carried_17 (by decide) (fun c_17 => (absurd c_17 (by rw [hn]; exact nI_ge hkn (by omega)))) (fun c_17 => ?_)
    refine x_aload_n dX9_carried_20 rfl ?_
    refine s_getr (ci := 9) (k := 15) (N := 20) (C := RX9) (T := TX9) dX9_carried_21 lfX9_35 inX9 rfl (by decide) (rfl) rfl ?_
    refine x_iload_n dX9_carried_24 rfl ?_
    refine s_iald dX9_carried_25 (rfl) (hi := rfl) (hj := by omega) (hn := by decide) ?_
    refine x_iload_n dX9_carried_26 rfl ?_
    refine x_icmp_le (tgt := 34) dX9_carried_27 (by decide) (fun c_27 => ?_) (fun c_27 => ?_)
    · refine x_aload_n dX9_carried_34 rfl ?_
      refine s_getr (ci := 9) (k := 15) (N := 20) (C := RX9) (T := TX9) dX9_carried_35 lfX9_35 inX9 rfl (by decide) (rfl) rfl ?_
      refine x_iload_n dX9_carried_38 rfl ?_
      refine s_iald dX9_carried_39 (rfl) (hi := rfl) (hj := by omega) (hn := by decide) ?_
      refine x_iload_n dX9_carried_40 rfl ?_
      refine x_icmp_ne (tgt := 48) dX9_carried_41 (by decide) (fun c_41 => ?_) (fun c_41 => ?_)
      · refine x_iload_n dX9_carried_48 rfl ?_
        refine x_istore_n dX9_carried_49 (Nat.le_of_ble_eq_true rfl) rfl ?_
        refine x_aload_n dX9_carried_50 rfl ?_
        refine s_getr (ci := 9) (k := 15) (N := 20) (C := RX9) (T := TX9) dX9_carried_51 lfX9_35 inX9 rfl (by decide) (rfl) rfl ?_
        refine x_iload_n dX9_carried_54 rfl ?_
        refine s_iald dX9_carried_55 (rfl) (hi := rfl) (hj := by omega) (hn := by decide) ?_
        refine x_iload_n dX9_carried_56 rfl ?_
        refine x_icmp_le (tgt := 69) dX9_carried_57 (by decide) (fun c_57 => ?_) (fun c_57 => ?_)
        · refine x_iload_n dX9_carried_69 rfl ?_
          refine x_istore_n dX9_carried_70 (Nat.le_of_ble_eq_true rfl) rfl ?_
          refine s_iinc dX9_carried_71 rfl (Nat.le_of_ble_eq_true rfl) rfl ?_
          refine x_goto (tgt := 10) dX9_carried_74 (by decide) ?_
          first
            | exact step _ _ (if_pos (Int32.not_le.mp c_27))
            | exact step _ _ ((if_neg (Int32.not_lt.mpr c_27)).trans (if_pos c_41))
            | exact step _ _ ((if_neg (Int32.not_lt.mpr c_27)).trans (if_neg c_41))
            | exact absurd c_57 c_27
            | exact absurd c_27 c_57
        · refine x_aload_n dX9_carried_60 rfl ?_
          refine s_getr (ci := 9) (k := 15) (N := 20) (C := RX9) (T := TX9) dX9_carried_61 lfX9_35 inX9 rfl (by decide) (rfl) rfl ?_
          refine x_iload_n dX9_carried_64 rfl ?_
          refine s_iald dX9_carried_65 (rfl) (hi := rfl) (hj := by omega) (hn := by decide) ?_
          refine x_goto (tgt := 70) dX9_carried_66 (by decide) ?_
          refine x_istore_n dX9_carried_70 (Nat.le_of_ble_eq_true rfl) rfl ?_
          refine s_iinc dX9_carried_71 rfl (Nat.le_of_ble_eq_true rfl) rfl ?_
          refine x_goto (tgt := 10) dX9_carried_74 (by decide) ?_
          first
            | exact step _ _ (if_pos (Int32.not_le.mp c_27))
            | exact step _ _ ((if_neg (Int32.not_lt.mpr c_27)).trans (if_pos c_41))
            | exact step _ _ ((if_neg (Int32.not_lt.mpr c_27)).trans (if_neg c_41))
            | exact absurd c_57 c_27
            | exact absurd c_27 c_57
      · refine x_iconst (v := -1) dX9_carried_44 (by decide) ?_
        refine x_goto (tgt := 49) dX9_carried_45 (by decide) ?_
        refine x_istore_n dX9_carried_49 (Nat.le_of_ble_eq_true rfl) rfl ?_
        refine x_aload_n dX9_carried_50 rfl ?_
        refine s_getr (ci := 9) (k := 15) (N := 20) (C := RX9) (T := TX9) dX9_carried_51 lfX9_35 inX9 rfl (by decide) (rfl) rfl ?_
        refine x_iload_n dX9_carried_54 rfl ?_
        refine s_iald dX9_carried_55 (rfl) (hi := rfl) (hj := by omega) (hn := by decide) ?_
        refine x_iload_n dX9_carried_56 rfl ?_
        refine x_icmp_le (tgt := 69) dX9_carried_57 (by decide) (fun c_57 => ?_) (fun c_57 => ?_)
        · refine x_iload_n dX9_carried_69 rfl ?_
          refine x_istore_n dX9_carried_70 (Nat.le_of_ble_eq_true rfl) rfl ?_
          refine s_iinc dX9_carried_71 rfl (Nat.le_of_ble_eq_true rfl) rfl ?_
          refine x_goto (tgt := 10) dX9_carried_74 (by decide) ?_
          first
            | exact step _ _ (if_pos (Int32.not_le.mp c_27))
            | exact step _ _ ((if_neg (Int32.not_lt.mpr c_27)).trans (if_pos c_41))
            | exact step _ _ ((if_neg (Int32.not_lt.mpr c_27)).trans (if_neg c_41))
            | exact absurd c_57 c_27
            | exact absurd c_27 c_57
        · refine x_aload_n dX9_carried_60 rfl ?_
          refine s_getr (ci := 9) (k := 15) (N := 20) (C := RX9) (T := TX9) dX9_carried_61 lfX9_35 inX9 rfl (by decide) (rfl) rfl ?_
          refine x_iload_n dX9_carried_64 rfl ?_
          refine s_iald dX9_carried_65 (rfl) (hi := rfl) (hj := by omega) (hn := by decide) ?_
          refine x_goto (tgt := 70) dX9_carried_66 (by decide) ?_
          refine x_istore_n dX9_carried_70 (Nat.le_of_ble_eq_true rfl) rfl ?_
          refine s_iinc dX9_carried_71 rfl (Nat.le_of_ble_eq_true rfl) rfl ?_
          refine x_goto (tgt := 10) dX9_carried_74 (by decide) ?_
          first
            | exact step _ _ (if_pos (Int32.not_le.mp c_27))
            | exact step _ _ ((if_neg (Int32.not_lt.mpr c_27)).trans (if_pos c_41))
            | exact step _ _ ((if_neg (Int32.not_lt.mpr c_27)).trans (if_neg c_41))
            | exact absurd c_57 c_27
            | exact absurd c_27 c_57
    · refine x_iload_n dX9_carried_30 rfl ?_
      refine x_goto (tgt := 49) dX9_carried_31 (by decide) ?_
      refine x_istore_n dX9_carried_49 (Nat.le_of_ble_eq_true rfl) rfl ?_
      refine x_aload_n dX9_carried_50 rfl ?_
      refine s_getr (ci := 9) (k := 15) (N := 20) (C := RX9) (T := TX9) dX9_carried_51 lfX9_35 inX9 rfl (by decide) (rfl) rfl ?_
      refine x_iload_n dX9_carried_54 rfl ?_
      refine s_iald dX9_carried_55 (rfl) (hi := rfl) (hj := by omega) (hn := by decide) ?_
      refine x_iload_n dX9_carried_56 rfl ?_
      refine x_icmp_le (tgt := 69) dX9_carried_57 (by decide) (fun c_57 => ?_) (fun c_57 => ?_)
      · refine x_iload_n dX9_carried_69 rfl ?_
        refine x_istore_n dX9_carried_70 (Nat.le_of_ble_eq_true rfl) rfl ?_
        refine s_iinc dX9_carried_71 rfl (Nat.le_of_ble_eq_true rfl) rfl ?_
        refine x_goto (tgt := 10) dX9_carried_74 (by decide) ?_
        first
          | exact step _ _ (if_pos (Int32.not_le.mp c_27))
          | exact step _ _ ((if_neg (Int32.not_lt.mpr c_27)).trans (if_pos c_41))
          | exact step _ _ ((if_neg (Int32.not_lt.mpr c_27)).trans (if_neg c_41))
          | exact absurd c_57 c_27
          | exact absurd c_27 c_57
      · refine x_aload_n dX9_carried_60 rfl ?_
        refine s_getr (ci := 9) (k := 15) (N := 20) (C := RX9) (T := TX9) dX9_carried_61 lfX9_35 inX9 rfl (by decide) (rfl) rfl ?_
        refine x_iload_n dX9_carried_64 rfl ?_
        refine s_iald dX9_carried_65 (rfl) (hi := rfl) (hj := by omega) (hn := by decide) ?_
        refine x_goto (tgt := 70) dX9_carried_66 (by decide) ?_
        refine x_istore_n dX9_carried_70 (Nat.le_of_ble_eq_true rfl) rfl ?_
        refine s_iinc dX9_carried_71 rfl (Nat.le_of_ble_eq_true rfl) rfl ?_
        refine x_goto (tgt := 10) dX9_carried_74 (by decide) ?_
        first
          | exact step _ _ (if_pos (Int32.not_le.mp c_27))
          | exact step _ _ ((if_neg (Int32.not_lt.mpr c_27)).trans (if_pos c_41))
          | exact step _ _ ((if_neg (Int32.not_lt.mpr c_27)).trans (if_neg c_41))
          | exact absurd c_57 c_27
          | exact absurd c_27 c_57
set_option maxRecDepth 100000 in
/-- by whom it is carried -/
theorem k_carried (σ : Sg) {n home turned : Nat} {toward : Int32} (hn : σ 83 0 = nI n) (hn8 : n ≤ 8) (hho : home < 256) (htu : turned < 256) (htw : toward = -1 ∨ inb n toward = true) (h16 : σ 81 16 = nI home) (h17 : σ 81 17 = nI turned) (h18 : σ 81 18 = toward) : Cm 3 YX9_carried [.ref 81] σ (fun v σ' => v = some (.int (caF (plM n σ 83) (moS n σ) home turned toward)) ∧ ∀ c, c ≠ 90 → σ' c = σ c) := by
  refine Cm_of (by decide +kernel) (Nat.le_of_ble_eq_true rfl) ?_
  refine x_aload_n dX9_carried_0 rfl ?_
  refine s_callV dX9_carried_1 (k_counts σ hn hn8 hho htu htw h16 h17 h18) rfl w_X9_counts lmX9_126 im_X9_counts se_X9_counts rfl (rfl) rfl (Nat.le_of_ble_eq_true rfl) rfl (by decide) (fun v_1 σ_1 h_1 => ?_)
  obtain ⟨rfl, V, hV, rfl⟩ := h_1
  refine x_iconst (v := -1) dX9_carried_4 (by decide) ?_
  refine x_istore_n dX9_carried_5 (Nat.le_of_ble_eq_true rfl) rfl ?_
  refine x_iconst (v := 0) dX9_carried_6 (by decide) ?_
  refine x_istore_n dX9_carried_7 (Nat.le_of_ble_eq_true rfl) rfl ?_
  refine x_iconst (v := 0) dX9_carried_8 (by decide) ?_
  refine x_istore_n dX9_carried_9 (Nat.le_of_ble_eq_true rfl) rfl ?_
  refine Ex.mono (l_carried (sw σ 90 V) (n := n) hn hn8 n 0 (by omega)) (fun v M h => ?_)
  obtain ⟨σ', rfl, rfl, rfl⟩ := h
  refine ⟨_, rfl, ?_, fun c hc => sw_n _ _ hc⟩
  rw [sw_s, wnF_congr n hV]
  rfl
