/-! ===== Moment: what it has, rain, a day ===== -/
set_option maxRecDepth 100000 in
theorem k_isContent (σ : Sg) {n m k : Nat} (hm : xMo m) (hn : σ 3 5 = nI n) (hn8 : n ≤ 8) (hk : k < n) : Cm 1 YX1_isContent [.ref m, .ref 3, .int (nI k)] σ (fun v σ' => v = some (.int (bI (!decide (tr n (σ (m + 1)) k < wantF (tr n (σ 4)) (tr n (σ 5)) k)))) ∧ σ' = σ) := by
  refine Cm_of (by decide +kernel) (Nat.le_of_ble_eq_true rfl) ?_
  have e := tr_i (f := σ (m + 1)) hk
  refine x_aload_n dX1_isContent_0 rfl ?_
  refine x_iload_n dX1_isContent_1 rfl ?_
  refine s_callV dX1_isContent_2 (k_has _ pl_3 hn hn8 (nI k)) rfl w_X3_has lmX1_51 im_X3_has se_X3_has rfl (rfl) rfl (Nat.le_of_ble_eq_true rfl) rfl (by decide) (fun v_2 σ_2 h_2 => ?_)
  obtain ⟨rfl, rfl⟩ := h_2
  refine x_if_eq (tgt := 26) dX1_isContent_5 (by decide) (fun c_5 => (absurd c_5 (by rw [inb_nI hk (by omega)]; decide))) (fun c_5 => ?_)
  refine x_aload_n dX1_isContent_8 rfl ?_
  refine s_getr (ci := 1) (k := 0) (N := 4) (C := RX1) (T := TX1) dX1_isContent_9 lfX1_9 inX1 rfl (by decide) (hm.1) rfl ?_
  refine x_iload_n dX1_isContent_12 rfl ?_
  refine s_iald dX1_isContent_13 (hm.2.1) (hi := rfl) (hj := by omega) (hn := by decide) ?_
  refine x_aload_n dX1_isContent_14 rfl ?_
  refine x_iload_n dX1_isContent_15 rfl ?_
  refine s_callV dX1_isContent_16 (k_wants _ hn hn8 hk) rfl w_X3_wants lmX1_64 im_X3_wants se_X3_wants rfl (rfl) rfl (Nat.le_of_ble_eq_true rfl) rfl (by decide) (fun v_16 σ_16 h_16 => ?_)
  obtain ⟨rfl, rfl⟩ := h_16
  refine x_icmp_lt (tgt := 26) dX1_isContent_19 (by decide) (fun c_19 => ?_) (fun c_19 => ?_)
  · refine x_iconst (v := 0) dX1_isContent_26 (by decide) ?_
    exact s_zret dX1_isContent_27 rfl (by first | exact Or.inl rfl | exact Or.inr rfl | assumption) (by rw [e]; simp [c_19, bI])
  · refine x_iconst (v := 1) dX1_isContent_22 (by decide) ?_
    refine x_goto (tgt := 27) dX1_isContent_23 (by decide) ?_
    exact s_zret dX1_isContent_27 rfl (by first | exact Or.inl rfl | exact Or.inr rfl | assumption) (by rw [e]; simp [c_19, bI])
def saF (w kd nd : FN) (i : Nat) : Bool := !decide (w i < wantF kd nd i)
set_option maxRecDepth 100000 in
theorem l_contentBits (σ : Sg) {n m : Nat} (hm : xMo m) (hn : σ 3 5 = nI n) (hn8 : n ≤ 8) : ∀ (j k : Nat), k + j = n → Ex (YX1_contentBits, 2, xB0, none) 4 [.ref m, .ref 3, .int (nI (stF (saF (tr n (σ (m + 1))) (tr n (σ 4)) (tr n (σ 5))) k)), .int (nI k)] [] (xMs σ) (xQ (fun v σ' => v = some (.int (nI (stF (saF (tr n (σ (m + 1))) (tr n (σ 4)) (tr n (σ 5))) n))) ∧ σ' = σ)) := by
  intro j
  induction j with
  | zero =>
    intro k hk
    have hk : k = n := by omega
    subst hk
    refine x_iload_n dX1_contentBits_4 rfl ?_
    refine x_aload_n dX1_contentBits_5 rfl ?_
    refine s_getiN (ci := 3) (k := 5) (N := 8) (C := RX3) (T := TX3) dX1_contentBits_6 lfX1_39 inX3 rfl (by decide) (rfl) rfl ?_
    refine x_icmp_ge (tgt := 33) dX1_contentBits_9 (by decide) (fun c_9 => ?_) (fun c_9 => (absurd (by rw [hn]; exact Int32.le_refl _) c_9))
    refine x_iload_n dX1_contentBits_33 rfl ?_
    exact s_iret dX1_contentBits_34 rfl (⟨rfl, rfl⟩)
  | succ j ih =>
    intro k hk
    have hkn : k < n := by omega
    have step : ∀ x : Int32, x = nI (stF (saF (tr n (σ (m + 1))) (tr n (σ 4)) (tr n (σ 5))) (k + 1)) → Ex (YX1_contentBits, 2, xB0, none) 4 [.ref m, .ref 3, .int x, .int (nI (k + 1))] [] (xMs σ) (xQ (fun v σ' => v = some (.int (nI (stF (saF (tr n (σ (m + 1))) (tr n (σ 4)) (tr n (σ 5))) n))) ∧ σ' = σ)) := fun x hx => by
      subst hx
      exact ih (k + 1) (by omega)
    refine x_iload_n dX1_contentBits_4 rfl ?_
    refine x_aload_n dX1_contentBits_5 rfl ?_
    refine s_getiN (ci := 3) (k := 5) (N := 8) (C := RX3) (T := TX3) dX1_contentBits_6 lfX1_39 inX3 rfl (by decide) (rfl) rfl ?_
    refine x_icmp_ge (tgt := 33) dX1_contentBits_9 (by decide) (fun c_9 => (absurd c_9 (by rw [hn]; exact nI_ge hkn (by omega)))) (fun c_9 => ?_)
    refine x_aload_n dX1_contentBits_12 rfl ?_
    refine x_aload_n dX1_contentBits_13 rfl ?_
    refine x_iload_n dX1_contentBits_14 rfl ?_
    refine s_callV dX1_contentBits_15 (k_isContent _ hm hn hn8 hkn) rfl w_X1_isContent lmX1_68 im_X1_isContent se_X1_isContent rfl (hm.1) rfl (Nat.le_of_ble_eq_true rfl) rfl (by decide) (fun v_15 σ_15 h_15 => ?_)
    obtain ⟨rfl, rfl⟩ := h_15
    refine x_if_eq (tgt := 27) dX1_contentBits_18 (by decide) (fun c_18 => ?_) (fun c_18 => ?_)
    · refine s_iinc dX1_contentBits_27 rfl (by decide) rfl ?_
      refine x_goto (tgt := 4) dX1_contentBits_30 (by decide) ?_
      first | exact step _ (stF_s (by omega) (bI_n c_18)) | exact step _ (stF_n (fun h => by rw [bI_0] at c_18; exact absurd (h.symm.trans c_18) (by decide)))
    · refine x_iload_n dX1_contentBits_21 rfl ?_
      refine x_iconst (v := 1) dX1_contentBits_22 (by decide) ?_
      refine x_iload_n dX1_contentBits_23 rfl ?_
      refine x_ishl dX1_contentBits_24 ?_
      refine x_ior dX1_contentBits_25 ?_
      refine x_istore_n dX1_contentBits_26 (by decide) rfl ?_
      refine s_iinc dX1_contentBits_27 rfl (by decide) rfl ?_
      refine x_goto (tgt := 4) dX1_contentBits_30 (by decide) ?_
      first | exact step _ (stF_s (by omega) (bI_n c_18)) | exact step _ (stF_n (fun h => by rw [bI_0] at c_18; exact absurd (h.symm.trans c_18) (by decide)))
set_option maxRecDepth 100000 in
theorem k_contentBits (σ : Sg) {n m : Nat} (hm : xMo m) (hn : σ 3 5 = nI n) (hn8 : n ≤ 8) : Cm 2 YX1_contentBits [.ref m, .ref 3] σ (fun v σ' => v = some (.int (nI (stF (saF (tr n (σ (m + 1))) (tr n (σ 4)) (tr n (σ 5))) n))) ∧ σ' = σ) := by
  refine Cm_of (by decide +kernel) (Nat.le_of_ble_eq_true rfl) ?_
  refine x_iconst (v := 0) dX1_contentBits_0 (by decide) ?_
  refine x_istore_n dX1_contentBits_1 (by decide) rfl ?_
  refine x_iconst (v := 0) dX1_contentBits_2 (by decide) ?_
  refine x_istore_n dX1_contentBits_3 (by decide) rfl ?_
  exact l_contentBits σ hm hn hn8 n 0 (by omega)
def smF (w : FN) : Nat → Int32
  | 0 => 0
  | k + 1 => smF w k + w k
theorem smF_congr {w w' : FN} : ∀ n, (∀ k, k < n → w k = w' k) → smF w n = smF w' n := by
  intro n
  induction n with
  | zero => intro _; rfl
  | succ n ih => intro h; unfold smF; rw [ih (fun k hk => h k (by omega)), h n (by omega)]
set_option maxRecDepth 100000 in
theorem l_allWater (σ : Sg) {n : Nat} (hn8 : n ≤ 8) : ∀ (j k : Nat), k + j = n → Ex (YX1_allWater, 0, xB0, none) 4 [.ref 15, .int (nI n), .int (smF (σ 16) k), .int (nI k)] [] (xMs σ) (xQ (fun v σ' => v = some (.int (smF (σ 16) n)) ∧ σ' = σ)) := by
  intro j
  induction j with
  | zero =>
    intro k hk
    have hk : k = n := by omega
    subst hk
    refine x_iload_n dX1_allWater_4 rfl ?_
    refine x_iload_n dX1_allWater_5 rfl ?_
    refine x_icmp_ge (tgt := 30) dX1_allWater_6 (by decide) (fun c_6 => ?_) (fun c_6 => (absurd (Int32.le_refl _) c_6))
    refine x_iload_n dX1_allWater_30 rfl ?_
    exact s_iret dX1_allWater_31 rfl (⟨rfl, rfl⟩)
  | succ j ih =>
    intro k hk
    have hkn : k < n := by omega
    refine x_iload_n dX1_allWater_4 rfl ?_
    refine x_iload_n dX1_allWater_5 rfl ?_
    refine x_icmp_ge (tgt := 30) dX1_allWater_6 (by decide) (fun c_6 => (absurd c_6 (nI_ge hkn (by omega)))) (fun c_6 => ?_)
    refine x_iload_n dX1_allWater_9 rfl ?_
    refine x_bipush (v := 8) dX1_allWater_10 (by decide) ?_
    refine x_icmp_ge (tgt := 30) dX1_allWater_12 (by decide) (fun c_12 => (absurd c_12 (show ¬ nI 8 ≤ nI k from nI_ge (by omega) (by decide)))) (fun c_12 => ?_)
    refine x_iload_n dX1_allWater_15 rfl ?_
    refine x_aload_n dX1_allWater_16 rfl ?_
    refine s_getr (ci := 1) (k := 0) (N := 4) (C := RX1) (T := TX1) dX1_allWater_17 lfX1_9 inX1 rfl (by decide) (rfl) rfl ?_
    refine x_iload_n dX1_allWater_20 rfl ?_
    refine s_iald dX1_allWater_21 (rfl) (hi := rfl) (hj := by omega) (hn := by decide) ?_
    refine x_iadd dX1_allWater_22 ?_
    refine x_istore_n dX1_allWater_23 (by decide) rfl ?_
    refine s_iinc dX1_allWater_24 rfl (by decide) rfl ?_
    refine x_goto (tgt := 4) dX1_allWater_27 (by decide) ?_
    exact ih (k + 1) (by omega)
set_option maxRecDepth 100000 in
theorem k_allWater (σ : Sg) {n : Nat} (hn8 : n ≤ 8) : Cm 0 YX1_allWater [.ref 15, .int (nI n)] σ (fun v σ' => v = some (.int (smF (tr n (σ 16)) n)) ∧ σ' = σ) := by
  refine Cm_of (by decide +kernel) (Nat.le_of_ble_eq_true rfl) ?_
  rw [smF_congr (w := tr n (σ 16)) (w' := σ 16) n (fun k hk => tr_i hk)]
  refine x_iconst (v := 0) dX1_allWater_0 (by decide) ?_
  refine x_istore_n dX1_allWater_1 (by decide) rfl ?_
  refine x_iconst (v := 0) dX1_allWater_2 (by decide) ?_
  refine x_istore_n dX1_allWater_3 (by decide) rfl ?_
  exact l_allWater σ hn8 n 0 (by omega)
/-- rain that runs off: whom it met, the water then -/
def flF (n : Nat) (sl : FN) (cap : Int32) : Nat → Nat → Int32 → Int32 → FN → Nat × FN
  | 0, met, _, _, w => (met, w)
  | f + 1, met, a, x, w => if 0 < x ∧ inb n a = true ∧ met.testBit a.toNatClampNeg = false then
      flF n sl cap f (met ||| 2 ^ a.toNatClampNeg) (sl a.toNatClampNeg) (w a.toNatClampNeg + x - (if cap < w a.toNatClampNeg + x then cap else w a.toNatClampNeg + x)) (upd w a.toNatClampNeg (if cap < w a.toNatClampNeg + x then cap else w a.toNatClampNeg + x))
    else (met, w)
theorem flF_n {n : Nat} {sl : FN} {cap : Int32} {f met : Nat} {a x : Int32} {w : FN} (h : ¬ (0 < x ∧ inb n a = true ∧ met.testBit a.toNatClampNeg = false)) : flF n sl cap f met a x w = (met, w) := by
  cases f with
  | zero => rfl
  | succ f => exact if_neg h
theorem flF_s {n : Nat} {sl : FN} {cap : Int32} {f met a : Nat} {x : Int32} {w : FN} (hn : n ≤ 1000) (h0 : 0 < x) (ha : a < n) (hm : met.testBit a = false) : flF n sl cap (f + 1) met (nI a) x w = flF n sl cap f (met ||| 2 ^ a) (sl a) (w a + x - (if cap < w a + x then cap else w a + x)) (upd w a (if cap < w a + x then cap else w a + x)) := by
  have e : (nI a).toNatClampNeg = a := nI_clamp (by omega)
  rw [flF, e, if_pos ⟨h0, inb_nI ha hn, hm⟩]
theorem flF_lt {n : Nat} {sl : FN} {cap : Int32} (hn8 : n ≤ 8) : ∀ (f met : Nat) (a x : Int32) (w : FN), met < 256 → (flF n sl cap f met a x w).1 < 256 := by
  intro f
  induction f with
  | zero => intro met a x w h; exact h
  | succ f ih =>
    intro met a x w h
    unfold flF
    split
    · rename_i hc
      obtain ⟨k, hk, rfl⟩ := inb_t (by omega) hc.2.1
      refine ih _ _ _ _ ?_
      rw [nI_clamp (by omega)]
      exact Nat.or_lt_two_pow (n := 8) h (Nat.pow_lt_pow_right (by decide) (by omega))
    · exact h
set_option maxRecDepth 100000 in
set_option maxHeartbeats 1000000 in
theorem l_fall {n m : Nat} {s0 : Int32} (hm : xMo m) (hn8 : n ≤ 8) (sl : FN) (cap : Int32) : ∀ (f : Nat) (σ : Sg) (met : Nat) (a x : Int32) (V7 : Value), f ≤ 8 → σ 3 5 = nI n → (tr n (σ 8) = sl ∧ σ 3 6 = cap) → met < 256 →
    Ex (YX1_fall, 1, xB0, none) 14 [.ref m, .ref 3, .int s0, .int (nI met), .int a, .int x, .int (nI (8 - f)), V7] [] (xMs σ) (xQ (fun v σ' => v = some (.int (nI (flF n sl cap f met a x (tr n (σ (m + 1)))).1)) ∧ ∃ W, σ' = sw σ (m + 1) W ∧ tr n W = (flF n sl cap f met a x (tr n (σ (m + 1)))).2)) := by
  intro f
  induction f with
  | zero =>
    intro σ met a x V7 hf hn hp hmet
    refine x_iload dX1_fall_14 rfl ?_
    refine x_bipush (v := 8) dX1_fall_16 (by decide) ?_
    refine x_icmp_ge (tgt := 109) dX1_fall_18 (by decide) (fun c_18 => ?_) (fun c_18 => (absurd (show (8 : Int32) ≤ nI (8 - 0) from by decide) c_18))
    refine x_iload_n dX1_fall_109 rfl ?_
    exact s_iret dX1_fall_110 rfl (⟨rfl, _, (sw_id _ _).symm, rfl⟩)
  | succ f ih =>
    intro σ met a x V7 hf hn hp hmet
    have hge := xMo_ge hm
    have stop : ¬ (0 < x ∧ inb n a = true ∧ met.testBit a.toNatClampNeg = false) → (some (Value.int (nI met)) = some (.int (nI (flF n sl cap (f + 1) met a x (tr n (σ (m + 1)))).1)) ∧ ∃ W, σ = sw σ (m + 1) W ∧ tr n W = (flF n sl cap (f + 1) met a x (tr n (σ (m + 1)))).2) := fun h => by
      rw [flF_n h]
      exact ⟨rfl, _, (sw_id _ _).symm, rfl⟩

    refine x_iload dX1_fall_14 rfl ?_
    refine x_bipush (v := 8) dX1_fall_16 (by decide) ?_
    refine x_icmp_ge (tgt := 109) dX1_fall_18 (by decide) (fun c_18 => (absurd c_18 (show ¬ nI 8 ≤ nI (8 - (f + 1)) from nI_ge (by omega) (by decide)))) (fun c_18 => ?_)
    refine x_iload dX1_fall_21 rfl ?_
    refine x_if_le (tgt := 109) dX1_fall_23 (by decide) (fun c_23 => ?_) (fun c_23 => ?_)
    · refine x_iload_n dX1_fall_109 rfl ?_
      exact s_iret dX1_fall_110 rfl (by first | exact stop (fun h => absurd h.1 (Int32.not_lt.mpr c_23)) | exact stop (fun h => by rw [h.2.1] at c_32; exact absurd c_32 (by decide)) | exact stop (fun h => by rw [nI_clamp (by omega)] at h; rw [h.2.2] at c_41; exact c_41 rfl))
    · refine x_aload_n dX1_fall_26 rfl ?_
      refine x_iload dX1_fall_27 rfl ?_
      refine s_callV dX1_fall_29 (k_has _ pl_3 hn hn8 a) rfl w_X3_has lmX1_51 im_X3_has se_X3_has rfl (rfl) rfl (Nat.le_of_ble_eq_true rfl) rfl (by decide) (fun v_29 σ_29 h_29 => ?_)
      obtain ⟨rfl, z_29⟩ := h_29
      have z_29 := z_29.symm
      subst z_29
      refine x_if_eq (tgt := 109) dX1_fall_32 (by decide) (fun c_32 => ?_) (fun c_32 => ?_)
      · refine x_iload_n dX1_fall_109 rfl ?_
        exact s_iret dX1_fall_110 rfl (by first | exact stop (fun h => absurd h.1 (Int32.not_lt.mpr c_23)) | exact stop (fun h => by rw [h.2.1] at c_32; exact absurd c_32 (by decide)) | exact stop (fun h => by rw [nI_clamp (by omega)] at h; rw [h.2.2] at c_41; exact c_41 rfl))
      · obtain ⟨k, hk, rfl⟩ := inb_t (by omega) (bI_n c_32)
        refine x_iload_n dX1_fall_35 rfl ?_
        refine x_iload dX1_fall_36 rfl ?_
        refine x_ishr dX1_fall_38 ?_
        refine x_iconst (v := 1) dX1_fall_39 (by decide) ?_
        refine x_iand dX1_fall_40 ?_
        refine x_if_eq (tgt := 47) dX1_fall_41 (by decide) (fun c_41 => ?_) (fun c_41 => ?_)
        · rw [bz_bit (by omega) (by omega), bI_0] at c_41
          refine x_iload_n dX1_fall_47 rfl ?_
          refine x_iconst (v := 1) dX1_fall_48 (by decide) ?_
          refine x_iload dX1_fall_49 rfl ?_
          refine x_ishl dX1_fall_51 ?_
          refine x_ior dX1_fall_52 ?_
          rw [bz_shl (by omega), bz_or]
          refine x_istore_n dX1_fall_53 (by decide) rfl ?_
          refine x_aload_n dX1_fall_54 rfl ?_
          refine s_getr (ci := 1) (k := 0) (N := 4) (C := RX1) (T := TX1) dX1_fall_55 lfX1_9 inX1 rfl (by decide) (hm.1) rfl ?_
          refine x_iload dX1_fall_58 rfl ?_
          refine s_iald dX1_fall_60 (hm.2.1) (hi := rfl) (hj := by omega) (hn := by decide) ?_
          refine x_iload dX1_fall_61 rfl ?_
          refine x_iadd dX1_fall_63 ?_
          refine x_istore dX1_fall_64 (by decide) rfl ?_
          refine x_aload_n dX1_fall_66 rfl ?_
          refine s_getr (ci := 1) (k := 0) (N := 4) (C := RX1) (T := TX1) dX1_fall_67 lfX1_9 inX1 rfl (by decide) (hm.1) rfl ?_
          refine x_iload dX1_fall_70 rfl ?_
          refine x_iload dX1_fall_72 rfl ?_
          refine x_aload_n dX1_fall_74 rfl ?_
          refine s_getiN (ci := 3) (k := 6) (N := 8) (C := RX3) (T := TX3) dX1_fall_75 lfX1_55 inX3 rfl (by decide) (rfl) rfl ?_
          refine s_min dX1_fall_78 tmX1_58 rfl (Nat.le_of_ble_eq_true rfl) (by decide) ?_
          refine s_iast dX1_fall_81 (hm.2.1) (hi := rfl) (hj := by omega) (hn := by decide) ?_
          refine xname (fun σ_81 e_81 => ?_)
          refine x_iload dX1_fall_82 rfl ?_
          refine x_aload_n dX1_fall_84 rfl ?_
          refine s_getr (ci := 1) (k := 0) (N := 4) (C := RX1) (T := TX1) dX1_fall_85 lfX1_9 inX1 rfl (by decide) (hm.1) rfl ?_
          refine x_iload dX1_fall_88 rfl ?_
          refine s_iald dX1_fall_90 (hm.2.1) (hi := rfl) (hj := by omega) (hn := by decide) ?_
          refine x_isub dX1_fall_91 ?_
          refine x_istore dX1_fall_92 (by decide) rfl ?_
          refine x_aload_n dX1_fall_94 rfl ?_
          refine s_getrN (ci := 3) (k := 4) (N := 8) (C := RX3) (T := TX3) dX1_fall_95 lfX1_61 inX3 rfl (by decide) (rfl) rfl ?_
          refine x_iload dX1_fall_98 rfl ?_
          refine s_iald dX1_fall_100 (rfl) (hi := rfl) (hj := by omega) (hn := by decide) ?_
          refine x_istore dX1_fall_101 (by decide) rfl ?_
          rw [show 8 - f = 8 - (f + 1) + 1 by omega] at ih
          refine s_iinc dX1_fall_103 rfl (by decide) rfl ?_
          refine x_goto (tgt := 14) dX1_fall_106 (by decide) ?_
          have hw0 : tr n (σ_81 (m + 1)) = upd (tr n (σ (m + 1))) k (if cap < σ (m + 1) k + x then cap else σ (m + 1) k + x) := by rw [e_81, sg_row, tr_upd hk, hp.2]
          have h8 : σ_81 8 k = sl k := by rw [e_81, sg_n _ _ _ (by omega), ← hp.1, tr_i hk]
          have hw1 : σ_81 (m + 1) k = (if cap < σ (m + 1) k + x then cap else σ (m + 1) k + x) := by rw [e_81, sg_s, hp.2]
          have hfl := flF_s (sl := sl) (cap := cap) (f := f) (w := tr n (σ (m + 1))) (by omega) (Int32.not_le.mp c_23) hk c_41
          rw [tr_i hk, ← hw0] at hfl
          rw [hfl, h8, hw1]
          refine Ex.mono (ih σ_81 (met ||| 2 ^ k) (sl k) _ _ (by omega) (by rw [e_81, sg_n _ _ _ (by omega)]; exact hn) ⟨by rw [e_81, sg_n _ _ _ (by omega)]; exact hp.1, by rw [e_81, sg_n _ _ _ (by omega)]; exact hp.2⟩ (Nat.or_lt_two_pow (n := 8) hmet (Nat.pow_lt_pow_right (by decide) (by omega)))) (fun v M h => ?_)
          obtain ⟨σ', rfl, hv, W, hW, ht⟩ := h
          exact ⟨σ', rfl, hv, W, by rw [hW, e_81, sw_sg], ht⟩
        · rw [bz_bit (by omega) (by omega)] at c_41
          refine x_goto (tgt := 109) dX1_fall_44 (by decide) ?_
          refine x_iload_n dX1_fall_109 rfl ?_
          exact s_iret dX1_fall_110 rfl (by first | exact stop (fun h => absurd h.1 (Int32.not_lt.mpr c_23)) | exact stop (fun h => by rw [h.2.1] at c_32; exact absurd c_32 (by decide)) | exact stop (fun h => by rw [nI_clamp (by omega)] at h; rw [h.2.2] at c_41; exact c_41 rfl))
/-- the day's last: one less -/
def deF (x : Int32) : Int32 := if 0 < x - 1 then x - 1 else 0
def flA (p : PL) (s : Int32) (w : FN) : Nat × FN := flF p.1 p.2.2.2.2.2.2.2 p.2.1 8 0 s p.2.2.1 w
set_option maxRecDepth 100000 in
theorem k_fall (σ : Sg) {n m : Nat} (hm : xMo m) (hn : σ 3 5 = nI n) (hn8 : n ≤ 8) (s : Int32) : Cm 1 YX1_fall [.ref m, .ref 3, .int s] σ (fun v σ' => v = some (.int (nI (flA (plC n σ) s (tr n (σ (m + 1)))).1)) ∧ ∃ W, σ' = sw σ (m + 1) W ∧ tr n W = (flA (plC n σ) s (tr n (σ (m + 1)))).2) := by
  refine Cm_of (by decide +kernel) (Nat.le_of_ble_eq_true rfl) ?_
  refine x_iconst (v := 0) dX1_fall_0 (by decide) ?_
  refine x_istore_n dX1_fall_1 (by decide) rfl ?_
  refine x_iload_n dX1_fall_2 rfl ?_
  refine x_istore dX1_fall_3 (by decide) rfl ?_
  refine x_aload_n dX1_fall_5 rfl ?_
  refine s_getiN (ci := 3) (k := 7) (N := 8) (C := RX3) (T := TX3) dX1_fall_6 lfX1_48 inX3 rfl (by decide) (rfl) rfl ?_
  refine x_istore dX1_fall_9 (by decide) rfl ?_
  refine x_iconst (v := 0) dX1_fall_11 (by decide) ?_
  refine x_istore dX1_fall_12 (by decide) rfl ?_
  exact l_fall hm hn8 (tr n (σ 8)) (σ 3 6) 8 σ 0 s (σ 3 7) .null (by omega) hn ⟨rfl, rfl⟩ (by omega)
/-- a day on which it rains on s -/
def psF (p : PL) (o : MO) (s : Int32) : MO := (tr p.1 (fun k => deF ((flA p s o.1).2 k)), o.2.1, s, o.2.2.2 + 1)
set_option maxRecDepth 100000 in
theorem l_pass {n m : Nat} {s0 : Int32} (hm : xMo m) (hn8 : n ≤ 8) (U : FN) (σ0 : Sg) (h0n : σ0 3 5 = nI n) : ∀ (j k : Nat) (W : FN), k + j = n → (∀ i, i < n → W i = if i < k then deF (U i) else U i) →
    Ex (YX1_pass, 2, xB0, none) 9 [.ref m, .ref 3, .int s0, .int (nI k)] [] (xMs (sw σ0 (m + 1) W)) (xQ (fun v σ' => v = none ∧ ∃ W', tr n W' = tr n (fun i => deF (U i)) ∧ σ' = sg (sg (sw σ0 (m + 1) W') m 2 s0) m 3 (σ0 m 3 + 1))) := by
  have hge := xMo_ge hm
  intro j
  induction j with
  | zero =>
    intro k W hk hW
    have hk : k = n := by omega
    subst hk
    have hn : sw σ0 (m + 1) W 3 5 = nI k := by rw [sw_n _ _ (by omega)]; exact h0n
    refine x_iload_n dX1_pass_9 rfl ?_
    refine x_aload_n dX1_pass_10 rfl ?_
    refine s_getiN (ci := 3) (k := 5) (N := 8) (C := RX3) (T := TX3) dX1_pass_11 lfX1_39 inX3 rfl (by decide) (rfl) rfl ?_
    refine x_icmp_ge (tgt := 41) dX1_pass_14 (by decide) (fun c_14 => ?_) (fun c_14 => (absurd (by rw [hn]; exact Int32.le_refl _) c_14))
    refine x_aload_n dX1_pass_41 rfl ?_
    refine x_iload_n dX1_pass_42 rfl ?_
    refine s_puti (ci := 1) (k := 2) (N := 4) (C := RX1) (T := TX1) (ty0 := tyX1) dX1_pass_43 lfX1_18 inX1 tyX1_ok nmX1 rfl (by decide) rfl rfl (hm.1) rfl ?_
    refine xname (fun σ_43 e_43 => ?_)
    refine x_aload_n dX1_pass_46 rfl ?_
    refine x_dup dX1_pass_47 rfl ?_
    refine s_geti (ci := 1) (k := 3) (N := 4) (C := RX1) (T := TX1) dX1_pass_48 lfX1_22 inX1 rfl (by decide) (hm.1) rfl ?_
    refine x_iconst (v := 1) dX1_pass_51 (by decide) ?_
    refine x_iadd dX1_pass_52 ?_
    refine s_puti (ci := 1) (k := 3) (N := 4) (C := RX1) (T := TX1) (ty0 := tyX1) dX1_pass_53 lfX1_22 inX1 tyX1_ok nmX1 rfl (by decide) rfl rfl (hm.1) rfl ?_
    refine xname (fun σ_53 e_53 => ?_)
    refine s_ret dX1_pass_56 rfl ?_
    refine ⟨rfl, W, tr_ext (fun i hi => by rw [hW i hi, if_pos hi]), ?_⟩
    rw [e_53, e_43, sg_k _ _ _ (by decide), sw_n _ _ (by omega)]
  | succ j ih =>
    intro k W hk hW
    have hkn : k < n := by omega
    have hn : sw σ0 (m + 1) W 3 5 = nI n := by rw [sw_n _ _ (by omega)]; exact h0n
    refine x_iload_n dX1_pass_9 rfl ?_
    refine x_aload_n dX1_pass_10 rfl ?_
    refine s_getiN (ci := 3) (k := 5) (N := 8) (C := RX3) (T := TX3) dX1_pass_11 lfX1_39 inX3 rfl (by decide) (rfl) rfl ?_
    refine x_icmp_ge (tgt := 41) dX1_pass_14 (by decide) (fun c_14 => (absurd c_14 (by rw [hn]; exact nI_ge hkn (by omega)))) (fun c_14 => ?_)
    refine x_aload_n dX1_pass_17 rfl ?_
    refine s_getr (ci := 1) (k := 0) (N := 4) (C := RX1) (T := TX1) dX1_pass_18 lfX1_9 inX1 rfl (by decide) (hm.1) rfl ?_
    refine x_iload_n dX1_pass_21 rfl ?_
    refine x_iconst (v := 0) dX1_pass_22 (by decide) ?_
    refine x_aload_n dX1_pass_23 rfl ?_
    refine s_getr (ci := 1) (k := 0) (N := 4) (C := RX1) (T := TX1) dX1_pass_24 lfX1_9 inX1 rfl (by decide) (hm.1) rfl ?_
    refine x_iload_n dX1_pass_27 rfl ?_
    refine s_iald dX1_pass_28 (hm.2.1) (hi := rfl) (hj := by omega) (hn := by decide) ?_
    refine x_iconst (v := 1) dX1_pass_29 (by decide) ?_
    refine x_isub dX1_pass_30 ?_
    refine s_max dX1_pass_31 tmX1_42 rfl (Nat.le_of_ble_eq_true rfl) (by decide) ?_
    refine s_iast dX1_pass_34 (hm.2.1) (hi := rfl) (hj := by omega) (hn := by decide) ?_
    refine s_iinc dX1_pass_35 rfl (by decide) rfl ?_
    refine x_goto (tgt := 9) dX1_pass_38 (by decide) ?_
    rw [sg_def, sw_sw, sw_s]
    refine ih (k + 1) _ (by omega) (fun i hi => ?_)
    unfold upd
    by_cases e : i = k
    · subst e
      rw [if_pos rfl, hW i hi, if_neg (Nat.lt_irrefl i), if_pos (Nat.lt_succ_self i)]
      rfl
    · rw [if_neg e, hW i hi]
      by_cases h : i < k
      · rw [if_pos h, if_pos (by omega)]
      · rw [if_neg h, if_neg (by omega)]
set_option maxRecDepth 100000 in
/-- pass: a day -/
theorem k_pass (σ : Sg) {n m : Nat} (hm : xMo m) (hn : σ 3 5 = nI n) (hn8 : n ≤ 8) (s : Int32) : Cm 2 YX1_pass [.ref m, .ref 3, .int s] σ (fun v σ' => v = none ∧ moC n σ' m = psF (plC n σ) (moC n σ m) s ∧ ∀ c, c ≠ m → c ≠ m + 1 → c ≠ m + 2 → σ' c = σ c) := by
  refine Cm_of (by decide +kernel) (Nat.le_of_ble_eq_true rfl) ?_
  refine x_aload_n dX1_pass_0 rfl ?_
  refine x_aload_n dX1_pass_1 rfl ?_
  refine x_iload_n dX1_pass_2 rfl ?_
  refine s_callV dX1_pass_3 (k_fall σ hm hn hn8 s) rfl w_X1_fall lmX1_35 im_X1_fall se_X1_fall rfl (hm.1) rfl (Nat.le_of_ble_eq_true rfl) rfl (by decide) (fun v_3 σ_3 h_3 => ?_)
  obtain ⟨rfl, W, rfl, hW⟩ := h_3
  refine x_pop dX1_pass_6 rfl ?_
  refine x_iconst (v := 0) dX1_pass_7 (by decide) ?_
  refine x_istore_n dX1_pass_8 (by decide) rfl ?_
  refine Ex.mono (l_pass (s0 := s) hm hn8 W σ hn n 0 W (by omega) (fun i hi => by rw [if_neg (by omega)])) (fun v M h => ?_)
  obtain ⟨σ', rfl, rfl, W', h1, rfl⟩ := h
  refine ⟨_, rfl, rfl, ?_, fun c h0 h1 h2 => by rw [sg_n _ _ _ h0, sg_n _ _ _ h0, sw_n _ _ h1]⟩
  have q1 : m + 1 ≠ m := by omega
  have q2 : m + 2 ≠ m := by omega
  have q3 : m + 2 ≠ m + 1 := by omega
  have q4 : m ≠ m + 1 := by omega
  have h1' : tr n W' = tr n (fun k => deF ((flA (plC n σ) s (tr n (σ (m + 1)))).2 k)) := by
    rw [h1]
    refine tr_ext fun k hk => ?_
    rw [← hW, tr_i hk]
  simp [moC, psF, sg_at, sg_rw, sw_at, q1, q2, q3, q4, upd]
  exact h1'
