/-! ===== step, isWord, kindOfWord, readNumber ===== -/
theorem sg_sg (σ : Sg) (a k : Nat) (x y : Int32) : sg (sg σ a k x) a k y = sg σ a k y := by
  funext b j
  simp only [sg_at]
  by_cases hb : b = a
  · simp only [hb, if_true]
    by_cases hj : j = k
    · simp [hj]
    · simp [hj]
  · simp [hb]
section XW
variable {Q : Option Value → xM → Prop} {σ : Sg} {len : Nat} {c : Nat → Nat}
set_option maxRecDepth 100000 in
theorem l_blank (hT : TX σ len c) {Y : Int32} : ∀ (f i : Nat), len ≤ i + f → i ≤ len → Ex (YX7_step, 1, xB0, none) 46 [.ref 1] [] (xMs (st2 σ (nI (rnF (blB len c) f i)) Y)) Q → Ex (YX7_step, 1, xB0, none) 8 [.ref 1] [] (xMs (st2 σ (nI i) Y)) Q := by
  obtain ⟨h1, h2, h3⟩ := hT
  intro f
  induction f with
  | zero =>
    intro i hf hi hk
    have e1 : st2 σ (nI i) Y 1 1 = nI len := by rw [st2_l]; exact h1
    have e2 := st2_s σ (nI i) Y
    refine x_aload_n dX7_step_8 rfl ?_
    refine s_geti (ci := 7) (k := 2) (N := 5) (C := RX7) (T := TX7) dX7_step_9 lfX7_19 inX7 rfl (by decide) (rfl) rfl ?_
    refine x_aload_n dX7_step_12 rfl ?_
    refine s_geti (ci := 7) (k := 1) (N := 5) (C := RX7) (T := TX7) dX7_step_13 lfX7_15 inX7 rfl (by decide) (rfl) rfl ?_
    refine x_icmp_ge (tgt := 46) dX7_step_16 (by decide) (fun c_16 => ?_) (fun c_16 => (absurd (by rw [e1, e2]; exact nI_le (by omega) (by omega)) c_16))
    exact hk
  | succ f ih =>
    intro i hf hi hk
    have e1 : st2 σ (nI i) Y 1 1 = nI len := by rw [st2_l]; exact h1
    have e2 := st2_s σ (nI i) Y
    rcases Nat.lt_or_ge i len with hl | hl
    · obtain ⟨h4, h5⟩ := h3 i hl
      have e3 : st2 σ (nI i) Y 2 i = nI (c i) := by rw [st2_n _ _ _ (by decide)]; exact h4
      have hi160 : i < 160 := by omega
      refine x_aload_n dX7_step_8 rfl ?_
      refine s_geti (ci := 7) (k := 2) (N := 5) (C := RX7) (T := TX7) dX7_step_9 lfX7_19 inX7 rfl (by decide) (rfl) rfl ?_
      refine x_aload_n dX7_step_12 rfl ?_
      refine s_geti (ci := 7) (k := 1) (N := 5) (C := RX7) (T := TX7) dX7_step_13 lfX7_15 inX7 rfl (by decide) (rfl) rfl ?_
      refine x_icmp_ge (tgt := 46) dX7_step_16 (by decide) (fun c_16 => (absurd c_16 (by rw [e1, e2]; exact nI_ge hl (by omega)))) (fun c_16 => ?_)
      refine x_aload_n dX7_step_19 rfl ?_
      refine s_getr (ci := 7) (k := 0) (N := 5) (C := RX7) (T := TX7) dX7_step_20 lfX7_9 inX7 rfl (by decide) (rfl) rfl ?_
      refine x_aload_n dX7_step_23 rfl ?_
      refine s_geti (ci := 7) (k := 2) (N := 5) (C := RX7) (T := TX7) dX7_step_24 lfX7_19 inX7 rfl (by decide) (rfl) rfl ?_
      refine s_cald dX7_step_27 (rfl) (hi := e2) (hj := by exact hi160) (hn := by decide) ?_
      refine x_bipush (v := 32) dX7_step_28 (by decide) ?_
      rw [e3]
      refine x_icmp_ne (tgt := 46) dX7_step_30 (by decide) (fun c_30 => ?_) (fun c_30 => ?_)
      · have hb : ¬ blB len c i = true := fun z => by
          unfold blB at z
          simp at z
          exact c_30 (by rw [z.2]; rfl)
        rw [rnF_n hb] at hk
        exact hk
      · refine x_aload_n dX7_step_33 rfl ?_
        refine x_dup dX7_step_34 rfl ?_
        refine s_geti (ci := 7) (k := 2) (N := 5) (C := RX7) (T := TX7) dX7_step_35 lfX7_19 inX7 rfl (by decide) (rfl) rfl ?_
        refine x_iconst (v := 1) dX7_step_38 (by decide) ?_
        refine x_iadd dX7_step_39 ?_
        refine s_puti (ci := 7) (k := 2) (N := 5) (C := RX7) (T := TX7) (ty0 := tyX7) dX7_step_40 lfX7_19 inX7 tyX7_ok nmX7 rfl (by decide) rfl rfl (rfl) rfl ?_
        refine x_goto (tgt := 8) dX7_step_43 (by decide) ?_
        have hb : blB len c i = true := by
          have := (nI_eq (a := c i) (b := 32) (by omega) (by decide)).mp c_30
          unfold blB
          rw [decide_eq_true hl, decide_eq_true this]
          rfl
        rw [rnF_y hb] at hk
        rw [st2_2, e2, nI_1]
        exact ih (i + 1) (by omega) (by omega) hk
    · rw [rnF_n (fun z => by have := blB_lt i z; omega)] at hk
      refine x_aload_n dX7_step_8 rfl ?_
      refine s_geti (ci := 7) (k := 2) (N := 5) (C := RX7) (T := TX7) dX7_step_9 lfX7_19 inX7 rfl (by decide) (rfl) rfl ?_
      refine x_aload_n dX7_step_12 rfl ?_
      refine s_geti (ci := 7) (k := 1) (N := 5) (C := RX7) (T := TX7) dX7_step_13 lfX7_15 inX7 rfl (by decide) (rfl) rfl ?_
      refine x_icmp_ge (tgt := 46) dX7_step_16 (by decide) (fun c_16 => ?_) (fun c_16 => (absurd (by rw [e1, e2]; exact nI_le (by omega) (by omega)) c_16))
      exact hk

set_option maxRecDepth 100000 in
theorem l_digits (hT : TX σ len c) {X : Int32} : ∀ (f i : Nat), len ≤ i + f → i ≤ len → Ex (YX7_step, 1, xB0, none) 167 [.ref 1] [] (xMs (st2 σ X (nI (rnF (dgB len c) f i)))) Q → Ex (YX7_step, 1, xB0, none) 65 [.ref 1] [] (xMs (st2 σ X (nI i))) Q := by
  intro f
  induction f with
  | zero =>
    intro i hf hi hk
    have e2 := st2_e σ X (nI i)
    have hb : dgB len c i = false := by
      cases q : dgB len c i with
      | false => rfl
      | true => have := dgB_lt i q; omega
    refine x_aload_n dX7_step_65 rfl ?_
    refine x_aload_n dX7_step_66 rfl ?_
    refine s_geti (ci := 7) (k := 3) (N := 5) (C := RX7) (T := TX7) dX7_step_67 lfX7_22 inX7 rfl (by decide) (rfl) rfl ?_
    rw [e2]
    refine s_callV dX7_step_70 (k_isDigitAt _ (TX_st2 hT _ _) hi) rfl w_X7_isDigitAt lmX7_41 im_X7_isDigitAt se_X7_isDigitAt rfl (rfl) rfl (Nat.le_of_ble_eq_true rfl) rfl (by decide) (fun v_70 σ_70 h_70 => ?_)
    obtain ⟨rfl, z_70⟩ := h_70
    have z_70 := z_70.symm
    subst z_70
    refine x_if_eq (tgt := 167) dX7_step_73 (by decide) (fun c_73 => ?_) (fun c_73 => (absurd (by rw [hb]; rfl) c_73))
    exact hk
  | succ f ih =>
    intro i hf hi hk
    have e1 : st2 σ X (nI i) 1 1 = nI len := by rw [st2_l]; exact hT.1
    have e2 := st2_e σ X (nI i)
    have h160 := hT.2.1
    cases hb : dgB len c i with
    | false =>
      rw [rnF_n (fun z => by rw [hb] at z; exact Bool.noConfusion z)] at hk
      refine x_aload_n dX7_step_65 rfl ?_
      refine x_aload_n dX7_step_66 rfl ?_
      refine s_geti (ci := 7) (k := 3) (N := 5) (C := RX7) (T := TX7) dX7_step_67 lfX7_22 inX7 rfl (by decide) (rfl) rfl ?_
      rw [e2]
      refine s_callV dX7_step_70 (k_isDigitAt _ (TX_st2 hT _ _) hi) rfl w_X7_isDigitAt lmX7_41 im_X7_isDigitAt se_X7_isDigitAt rfl (rfl) rfl (Nat.le_of_ble_eq_true rfl) rfl (by decide) (fun v_70 σ_70 h_70 => ?_)
      obtain ⟨rfl, z_70⟩ := h_70
      have z_70 := z_70.symm
      subst z_70
      refine x_if_eq (tgt := 167) dX7_step_73 (by decide) (fun c_73 => ?_) (fun c_73 => (absurd (by rw [hb]; rfl) c_73))
      exact hk
    | true =>
      have hl := dgB_lt i hb
      rw [rnF_y hb] at hk
      refine x_aload_n dX7_step_65 rfl ?_
      refine x_aload_n dX7_step_66 rfl ?_
      refine s_geti (ci := 7) (k := 3) (N := 5) (C := RX7) (T := TX7) dX7_step_67 lfX7_22 inX7 rfl (by decide) (rfl) rfl ?_
      rw [e2]
      refine s_callV dX7_step_70 (k_isDigitAt _ (TX_st2 hT _ _) hi) rfl w_X7_isDigitAt lmX7_41 im_X7_isDigitAt se_X7_isDigitAt rfl (rfl) rfl (Nat.le_of_ble_eq_true rfl) rfl (by decide) (fun v_70 σ_70 h_70 => ?_)
      obtain ⟨rfl, z_70⟩ := h_70
      have z_70 := z_70.symm
      subst z_70
      refine x_if_eq (tgt := 167) dX7_step_73 (by decide) (fun c_73 => (absurd c_73 (by rw [hb]; decide))) (fun c_73 => ?_)
      refine x_aload_n dX7_step_76 rfl ?_
      refine s_geti (ci := 7) (k := 3) (N := 5) (C := RX7) (T := TX7) dX7_step_77 lfX7_22 inX7 rfl (by decide) (rfl) rfl ?_
      refine x_aload_n dX7_step_80 rfl ?_
      refine s_geti (ci := 7) (k := 1) (N := 5) (C := RX7) (T := TX7) dX7_step_81 lfX7_15 inX7 rfl (by decide) (rfl) rfl ?_
      refine x_icmp_ge (tgt := 167) dX7_step_84 (by decide) (fun c_84 => (absurd c_84 (by rw [e1, e2]; exact nI_ge hl (by omega)))) (fun c_84 => ?_)
      refine x_aload_n dX7_step_87 rfl ?_
      refine x_dup dX7_step_88 rfl ?_
      refine s_geti (ci := 7) (k := 3) (N := 5) (C := RX7) (T := TX7) dX7_step_89 lfX7_22 inX7 rfl (by decide) (rfl) rfl ?_
      refine x_iconst (v := 1) dX7_step_92 (by decide) ?_
      refine x_iadd dX7_step_93 ?_
      refine s_puti (ci := 7) (k := 3) (N := 5) (C := RX7) (T := TX7) (ty0 := tyX7) dX7_step_94 lfX7_22 inX7 tyX7_ok nmX7 rfl (by decide) rfl rfl (rfl) rfl ?_
      refine x_goto (tgt := 65) dX7_step_97 (by decide) ?_
      rw [st2_3, e2, nI_1]
      exact ih (i + 1) (by omega) (by omega) hk
set_option maxRecDepth 100000 in
theorem l_smalls (hT : TX σ len c) {X : Int32} : ∀ (f i : Nat), len ≤ i + f → i ≤ len → Ex (YX7_step, 1, xB0, none) 167 [.ref 1] [] (xMs (st2 σ X (nI (rnF (smB len c) f i)))) Q → Ex (YX7_step, 1, xB0, none) 111 [.ref 1] [] (xMs (st2 σ X (nI i))) Q := by
  intro f
  induction f with
  | zero =>
    intro i hf hi hk
    have e2 := st2_e σ X (nI i)
    have hb : smB len c i = false := by
      cases q : smB len c i with
      | false => rfl
      | true => have := smB_lt i q; omega
    refine x_aload_n dX7_step_111 rfl ?_
    refine x_aload_n dX7_step_112 rfl ?_
    refine s_geti (ci := 7) (k := 3) (N := 5) (C := RX7) (T := TX7) dX7_step_113 lfX7_22 inX7 rfl (by decide) (rfl) rfl ?_
    rw [e2]
    refine s_callV dX7_step_116 (k_isSmallAt _ (TX_st2 hT _ _) hi) rfl w_X7_isSmallAt lmX7_45 im_X7_isSmallAt se_X7_isSmallAt rfl (rfl) rfl (Nat.le_of_ble_eq_true rfl) rfl (by decide) (fun v_116 σ_116 h_116 => ?_)
    obtain ⟨rfl, z_116⟩ := h_116
    have z_116 := z_116.symm
    subst z_116
    refine x_if_eq (tgt := 167) dX7_step_119 (by decide) (fun c_119 => ?_) (fun c_119 => (absurd (by rw [hb]; rfl) c_119))
    exact hk
  | succ f ih =>
    intro i hf hi hk
    have e1 : st2 σ X (nI i) 1 1 = nI len := by rw [st2_l]; exact hT.1
    have e2 := st2_e σ X (nI i)
    have h160 := hT.2.1
    cases hb : smB len c i with
    | false =>
      rw [rnF_n (fun z => by rw [hb] at z; exact Bool.noConfusion z)] at hk
      refine x_aload_n dX7_step_111 rfl ?_
      refine x_aload_n dX7_step_112 rfl ?_
      refine s_geti (ci := 7) (k := 3) (N := 5) (C := RX7) (T := TX7) dX7_step_113 lfX7_22 inX7 rfl (by decide) (rfl) rfl ?_
      rw [e2]
      refine s_callV dX7_step_116 (k_isSmallAt _ (TX_st2 hT _ _) hi) rfl w_X7_isSmallAt lmX7_45 im_X7_isSmallAt se_X7_isSmallAt rfl (rfl) rfl (Nat.le_of_ble_eq_true rfl) rfl (by decide) (fun v_116 σ_116 h_116 => ?_)
      obtain ⟨rfl, z_116⟩ := h_116
      have z_116 := z_116.symm
      subst z_116
      refine x_if_eq (tgt := 167) dX7_step_119 (by decide) (fun c_119 => ?_) (fun c_119 => (absurd (by rw [hb]; rfl) c_119))
      exact hk
    | true =>
      have hl := smB_lt i hb
      rw [rnF_y hb] at hk
      refine x_aload_n dX7_step_111 rfl ?_
      refine x_aload_n dX7_step_112 rfl ?_
      refine s_geti (ci := 7) (k := 3) (N := 5) (C := RX7) (T := TX7) dX7_step_113 lfX7_22 inX7 rfl (by decide) (rfl) rfl ?_
      rw [e2]
      refine s_callV dX7_step_116 (k_isSmallAt _ (TX_st2 hT _ _) hi) rfl w_X7_isSmallAt lmX7_45 im_X7_isSmallAt se_X7_isSmallAt rfl (rfl) rfl (Nat.le_of_ble_eq_true rfl) rfl (by decide) (fun v_116 σ_116 h_116 => ?_)
      obtain ⟨rfl, z_116⟩ := h_116
      have z_116 := z_116.symm
      subst z_116
      refine x_if_eq (tgt := 167) dX7_step_119 (by decide) (fun c_119 => (absurd c_119 (by rw [hb]; decide))) (fun c_119 => ?_)
      refine x_aload_n dX7_step_122 rfl ?_
      refine s_geti (ci := 7) (k := 3) (N := 5) (C := RX7) (T := TX7) dX7_step_123 lfX7_22 inX7 rfl (by decide) (rfl) rfl ?_
      refine x_aload_n dX7_step_126 rfl ?_
      refine s_geti (ci := 7) (k := 1) (N := 5) (C := RX7) (T := TX7) dX7_step_127 lfX7_15 inX7 rfl (by decide) (rfl) rfl ?_
      refine x_icmp_ge (tgt := 167) dX7_step_130 (by decide) (fun c_130 => (absurd c_130 (by rw [e1, e2]; exact nI_ge hl (by omega)))) (fun c_130 => ?_)
      refine x_aload_n dX7_step_133 rfl ?_
      refine x_dup dX7_step_134 rfl ?_
      refine s_geti (ci := 7) (k := 3) (N := 5) (C := RX7) (T := TX7) dX7_step_135 lfX7_22 inX7 rfl (by decide) (rfl) rfl ?_
      refine x_iconst (v := 1) dX7_step_138 (by decide) ?_
      refine x_iadd dX7_step_139 ?_
      refine s_puti (ci := 7) (k := 3) (N := 5) (C := RX7) (T := TX7) (ty0 := tyX7) dX7_step_140 lfX7_22 inX7 tyX7_ok nmX7 rfl (by decide) rfl rfl (rfl) rfl ?_
      refine x_goto (tgt := 111) dX7_step_143 (by decide) ?_
      rw [st2_3, e2, nI_1]
      exact ih (i + 1) (by omega) (by omega) hk
end XW
set_option maxRecDepth 100000 in
theorem k_step (σ : Sg) {len e : Nat} {c : Nat → Nat} (hT : TX σ len c) (he : σ 1 3 = nI e) (hle : e ≤ len) : Cm 1 YX7_step [.ref 1] σ (fun v σ' => v = none ∧ σ' = st2 σ (nI (tkS len c e)) (nI (tkE len c (tkS len c e)))) := by
  refine Cm_of (by decide +kernel) (Nat.le_of_ble_eq_true rfl) ?_
  have hs := tkS_le (c := c) hle
  have h160 := hT.2.1
  have fin : ∀ Y : Int32, Ex (YX7_step, 1, xB0, none) 46 [.ref 1] [] (xMs (st2 σ (nI (tkS len c e)) Y)) (xQ (fun v σ' => v = none ∧ σ' = st2 σ (nI (tkS len c e)) (nI (tkE len c (tkS len c e))))) := by
    intro Y
    have e1 := st2_s σ (nI (tkS len c e)) Y
    generalize hsq : tkS len c e = s at hs e1

    cases hd : dgB len c s with
    | true =>
      have ht : tkE len c s = rnF (dgB len c) len s := if_pos hd
      rw [ht]
      refine x_aload_n dX7_step_46 rfl ?_
      refine x_aload_n dX7_step_47 rfl ?_
      refine s_geti (ci := 7) (k := 2) (N := 5) (C := RX7) (T := TX7) dX7_step_48 lfX7_19 inX7 rfl (by decide) (rfl) rfl ?_
      refine s_puti (ci := 7) (k := 3) (N := 5) (C := RX7) (T := TX7) (ty0 := tyX7) dX7_step_51 lfX7_22 inX7 tyX7_ok nmX7 rfl (by decide) rfl rfl (rfl) rfl ?_
      refine x_aload_n dX7_step_54 rfl ?_
      refine x_aload_n dX7_step_55 rfl ?_
      refine s_geti (ci := 7) (k := 2) (N := 5) (C := RX7) (T := TX7) dX7_step_56 lfX7_19 inX7 rfl (by decide) (rfl) rfl ?_
      rw [st2_3, e1, st2_s]
      refine s_callV dX7_step_59 (k_isDigitAt _ (TX_st2 hT _ _) hs) rfl w_X7_isDigitAt lmX7_41 im_X7_isDigitAt se_X7_isDigitAt rfl (rfl) rfl (Nat.le_of_ble_eq_true rfl) rfl (by decide) (fun v_59 σ_59 h_59 => ?_)
      obtain ⟨rfl, z_59⟩ := h_59
      have z_59 := z_59.symm
      subst z_59
      refine x_if_eq (tgt := 100) dX7_step_62 (by decide) (fun c_62 => (absurd c_62 (by rw [hd]; decide))) (fun c_62 => ?_)
      refine l_digits hT len s (by omega) hs ?_
      exact s_ret dX7_step_167 rfl ⟨rfl, rfl⟩
    | false =>
      cases hm : smB len c s with
      | true =>
        have ht : tkE len c s = rnF (smB len c) len s := by unfold tkE; rw [if_neg (by rw [hd]; decide), if_pos hm]
        rw [ht]
        refine x_aload_n dX7_step_46 rfl ?_
        refine x_aload_n dX7_step_47 rfl ?_
        refine s_geti (ci := 7) (k := 2) (N := 5) (C := RX7) (T := TX7) dX7_step_48 lfX7_19 inX7 rfl (by decide) (rfl) rfl ?_
        refine s_puti (ci := 7) (k := 3) (N := 5) (C := RX7) (T := TX7) (ty0 := tyX7) dX7_step_51 lfX7_22 inX7 tyX7_ok nmX7 rfl (by decide) rfl rfl (rfl) rfl ?_
        refine x_aload_n dX7_step_54 rfl ?_
        refine x_aload_n dX7_step_55 rfl ?_
        refine s_geti (ci := 7) (k := 2) (N := 5) (C := RX7) (T := TX7) dX7_step_56 lfX7_19 inX7 rfl (by decide) (rfl) rfl ?_
        rw [st2_3, e1, st2_s]
        refine s_callV dX7_step_59 (k_isDigitAt _ (TX_st2 hT _ _) hs) rfl w_X7_isDigitAt lmX7_41 im_X7_isDigitAt se_X7_isDigitAt rfl (rfl) rfl (Nat.le_of_ble_eq_true rfl) rfl (by decide) (fun v_59 σ_59 h_59 => ?_)
        obtain ⟨rfl, z_59⟩ := h_59
        have z_59 := z_59.symm
        subst z_59
        refine x_if_eq (tgt := 100) dX7_step_62 (by decide) (fun c_62 => ?_) (fun c_62 => (absurd (by rw [hd]; rfl) c_62))
        refine x_aload_n dX7_step_100 rfl ?_
        refine x_aload_n dX7_step_101 rfl ?_
        refine s_geti (ci := 7) (k := 2) (N := 5) (C := RX7) (T := TX7) dX7_step_102 lfX7_19 inX7 rfl (by decide) (rfl) rfl ?_
        rw [st2_s]
        refine s_callV dX7_step_105 (k_isSmallAt _ (TX_st2 hT _ _) hs) rfl w_X7_isSmallAt lmX7_45 im_X7_isSmallAt se_X7_isSmallAt rfl (rfl) rfl (Nat.le_of_ble_eq_true rfl) rfl (by decide) (fun v_105 σ_105 h_105 => ?_)
        obtain ⟨rfl, z_105⟩ := h_105
        have z_105 := z_105.symm
        subst z_105
        refine x_if_eq (tgt := 146) dX7_step_108 (by decide) (fun c_108 => (absurd c_108 (by rw [hm]; decide))) (fun c_108 => ?_)
        refine l_smalls hT len s (by omega) hs ?_
        exact s_ret dX7_step_167 rfl ⟨rfl, rfl⟩
      | false =>
        rcases Nat.lt_or_ge s len with hl | hl
        · have ht : tkE len c s = s + 1 := by unfold tkE; rw [if_neg (by rw [hd]; decide), if_neg (by rw [hm]; decide), if_pos hl]
          rw [ht]
          refine x_aload_n dX7_step_46 rfl ?_
          refine x_aload_n dX7_step_47 rfl ?_
          refine s_geti (ci := 7) (k := 2) (N := 5) (C := RX7) (T := TX7) dX7_step_48 lfX7_19 inX7 rfl (by decide) (rfl) rfl ?_
          refine s_puti (ci := 7) (k := 3) (N := 5) (C := RX7) (T := TX7) (ty0 := tyX7) dX7_step_51 lfX7_22 inX7 tyX7_ok nmX7 rfl (by decide) rfl rfl (rfl) rfl ?_
          refine x_aload_n dX7_step_54 rfl ?_
          refine x_aload_n dX7_step_55 rfl ?_
          refine s_geti (ci := 7) (k := 2) (N := 5) (C := RX7) (T := TX7) dX7_step_56 lfX7_19 inX7 rfl (by decide) (rfl) rfl ?_
          rw [st2_3, e1, st2_s]
          refine s_callV dX7_step_59 (k_isDigitAt _ (TX_st2 hT _ _) hs) rfl w_X7_isDigitAt lmX7_41 im_X7_isDigitAt se_X7_isDigitAt rfl (rfl) rfl (Nat.le_of_ble_eq_true rfl) rfl (by decide) (fun v_59 σ_59 h_59 => ?_)
          obtain ⟨rfl, z_59⟩ := h_59
          have z_59 := z_59.symm
          subst z_59
          refine x_if_eq (tgt := 100) dX7_step_62 (by decide) (fun c_62 => ?_) (fun c_62 => (absurd (by rw [hd]; rfl) c_62))
          refine x_aload_n dX7_step_100 rfl ?_
          refine x_aload_n dX7_step_101 rfl ?_
          refine s_geti (ci := 7) (k := 2) (N := 5) (C := RX7) (T := TX7) dX7_step_102 lfX7_19 inX7 rfl (by decide) (rfl) rfl ?_
          rw [st2_s]
          refine s_callV dX7_step_105 (k_isSmallAt _ (TX_st2 hT _ _) hs) rfl w_X7_isSmallAt lmX7_45 im_X7_isSmallAt se_X7_isSmallAt rfl (rfl) rfl (Nat.le_of_ble_eq_true rfl) rfl (by decide) (fun v_105 σ_105 h_105 => ?_)
          obtain ⟨rfl, z_105⟩ := h_105
          have z_105 := z_105.symm
          subst z_105
          refine x_if_eq (tgt := 146) dX7_step_108 (by decide) (fun c_108 => ?_) (fun c_108 => (absurd (by rw [hm]; rfl) c_108))
          refine x_aload_n dX7_step_146 rfl ?_
          refine s_geti (ci := 7) (k := 3) (N := 5) (C := RX7) (T := TX7) dX7_step_147 lfX7_22 inX7 rfl (by decide) (rfl) rfl ?_
          refine x_aload_n dX7_step_150 rfl ?_
          refine s_geti (ci := 7) (k := 1) (N := 5) (C := RX7) (T := TX7) dX7_step_151 lfX7_15 inX7 rfl (by decide) (rfl) rfl ?_
          rw [st2_e, st2_l, hT.1]
          refine x_icmp_ge (tgt := 167) dX7_step_154 (by decide) (fun c_154 => (absurd c_154 (nI_ge hl (by omega)))) (fun c_154 => ?_)
          refine x_aload_n dX7_step_157 rfl ?_
          refine x_dup dX7_step_158 rfl ?_
          refine s_geti (ci := 7) (k := 3) (N := 5) (C := RX7) (T := TX7) dX7_step_159 lfX7_22 inX7 rfl (by decide) (rfl) rfl ?_
          refine x_iconst (v := 1) dX7_step_162 (by decide) ?_
          refine x_iadd dX7_step_163 ?_
          skip
          refine s_puti (ci := 7) (k := 3) (N := 5) (C := RX7) (T := TX7) (ty0 := tyX7) dX7_step_164 lfX7_22 inX7 tyX7_ok nmX7 rfl (by decide) rfl rfl (rfl) rfl ?_
          exact s_ret dX7_step_167 rfl (by rw [st2_3, st2_e, nI_1]; exact ⟨rfl, rfl⟩)
        · have ht : tkE len c s = s := by unfold tkE; rw [if_neg (by rw [hd]; decide), if_neg (by rw [hm]; decide), if_neg (by omega)]
          rw [ht]
          refine x_aload_n dX7_step_46 rfl ?_
          refine x_aload_n dX7_step_47 rfl ?_
          refine s_geti (ci := 7) (k := 2) (N := 5) (C := RX7) (T := TX7) dX7_step_48 lfX7_19 inX7 rfl (by decide) (rfl) rfl ?_
          refine s_puti (ci := 7) (k := 3) (N := 5) (C := RX7) (T := TX7) (ty0 := tyX7) dX7_step_51 lfX7_22 inX7 tyX7_ok nmX7 rfl (by decide) rfl rfl (rfl) rfl ?_
          refine x_aload_n dX7_step_54 rfl ?_
          refine x_aload_n dX7_step_55 rfl ?_
          refine s_geti (ci := 7) (k := 2) (N := 5) (C := RX7) (T := TX7) dX7_step_56 lfX7_19 inX7 rfl (by decide) (rfl) rfl ?_
          rw [st2_3, e1, st2_s]
          refine s_callV dX7_step_59 (k_isDigitAt _ (TX_st2 hT _ _) hs) rfl w_X7_isDigitAt lmX7_41 im_X7_isDigitAt se_X7_isDigitAt rfl (rfl) rfl (Nat.le_of_ble_eq_true rfl) rfl (by decide) (fun v_59 σ_59 h_59 => ?_)
          obtain ⟨rfl, z_59⟩ := h_59
          have z_59 := z_59.symm
          subst z_59
          refine x_if_eq (tgt := 100) dX7_step_62 (by decide) (fun c_62 => ?_) (fun c_62 => (absurd (by rw [hd]; rfl) c_62))
          refine x_aload_n dX7_step_100 rfl ?_
          refine x_aload_n dX7_step_101 rfl ?_
          refine s_geti (ci := 7) (k := 2) (N := 5) (C := RX7) (T := TX7) dX7_step_102 lfX7_19 inX7 rfl (by decide) (rfl) rfl ?_
          rw [st2_s]
          refine s_callV dX7_step_105 (k_isSmallAt _ (TX_st2 hT _ _) hs) rfl w_X7_isSmallAt lmX7_45 im_X7_isSmallAt se_X7_isSmallAt rfl (rfl) rfl (Nat.le_of_ble_eq_true rfl) rfl (by decide) (fun v_105 σ_105 h_105 => ?_)
          obtain ⟨rfl, z_105⟩ := h_105
          have z_105 := z_105.symm
          subst z_105
          refine x_if_eq (tgt := 146) dX7_step_108 (by decide) (fun c_108 => ?_) (fun c_108 => (absurd (by rw [hm]; rfl) c_108))
          refine x_aload_n dX7_step_146 rfl ?_
          refine s_geti (ci := 7) (k := 3) (N := 5) (C := RX7) (T := TX7) dX7_step_147 lfX7_22 inX7 rfl (by decide) (rfl) rfl ?_
          refine x_aload_n dX7_step_150 rfl ?_
          refine s_geti (ci := 7) (k := 1) (N := 5) (C := RX7) (T := TX7) dX7_step_151 lfX7_15 inX7 rfl (by decide) (rfl) rfl ?_
          rw [st2_e, st2_l, hT.1]
          refine x_icmp_ge (tgt := 167) dX7_step_154 (by decide) (fun c_154 => ?_) (fun c_154 => (absurd (nI_le hl (by omega)) c_154))
          exact s_ret dX7_step_167 rfl (⟨rfl, rfl⟩)
  refine x_aload_n dX7_step_0 rfl ?_
  refine x_aload_n dX7_step_1 rfl ?_
  refine s_geti (ci := 7) (k := 3) (N := 5) (C := RX7) (T := TX7) dX7_step_2 lfX7_22 inX7 rfl (by decide) (rfl) rfl ?_
  refine s_puti (ci := 7) (k := 2) (N := 5) (C := RX7) (T := TX7) (ty0 := tyX7) dX7_step_5 lfX7_19 inX7 tyX7_ok nmX7 rfl (by decide) rfl rfl (rfl) rfl ?_
  rw [st2_of (σ := sg σ 1 2 (σ 1 3)) (x := nI e) (y := nI e) (by rw [sg_s]; exact he) (by rw [sg_k _ _ _ (by decide)]; exact he)]
  have hq : st2 (sg σ 1 2 (σ 1 3)) (nI e) (nI e) = st2 σ (nI e) (nI e) := by unfold st2; rw [show sg (sg σ 1 2 (σ 1 3)) 1 2 (nI e) = sg σ 1 2 (nI e) by rw [he, sg_sg]]
  rw [hq]
  exact l_blank hT len e (by omega) hle (fin _)
