/-! ===== RainBallotModel's text: a token, a word, a number ===== -/

set_option maxRecDepth 100000 in
theorem l_tok3b {len s : Nat} {c : Nat → Nat} {σ0 : Sg} {V1 : Value} (hs : s ≤ len) (hdg : dgB len c s = true) : ∀ (j i : Nat) (τ : Sg), i + j = len → s ≤ i → T3 len c σ0 τ s i 2 (muF c s (i - s)) → rnF (dgB len c) len i = tkE len c s → Ex (YX9_token, 2, xB0, none) 118 [.ref 81, V1] [] (xMs τ) (xQ (fun v σ' => v = none ∧ TK len c σ' s ∧ FK σ0 σ')) := by
  have hsl := dgB_lt s hdg
  have e1 : (2 : Int32) = soF len c s := by
    unfold soF
    rw [if_neg (fun z => z hsl), if_neg (fun z => by rw [sm_dg z] at hdg; exact Bool.noConfusion hdg), if_pos hdg]
  have eva : ∀ i, rnF (dgB len c) len i = tkE len c s → ¬ dgB len c i = true → muF c s (i - s) = vaF len c s := fun i h1 h2 => by
    unfold vaF
    rw [if_pos hdg, ← h1, rnF_n h2]
  intro j
  induction j with
  | zero =>
    intro i τ hi hsi h hr
    have hno : dgB len c i = false := by
      cases q : dgB len c i with
      | false => rfl
      | true => have := dgB_lt i q; omega
    have hl := h.1.2.1
    have hlt := lt_dg (len := len) (i := i) (c := c) (fun z => (h.1.2.2 i z).2)
    rw [hno] at hlt
    refine x_aload_n dX9_token_118 rfl ?_
    refine s_geti (ci := 9) (k := 12) (N := 20) (C := RX9) (T := TX9) dX9_token_119 lfX9_75 inX9 rfl (by decide) (rfl) rfl ?_
    refine x_iconst (v := 2) dX9_token_122 (by decide) ?_
    rw [h.2.2.2.2.1]
    refine x_icmp_ne (tgt := 195) dX9_token_123 (by decide) (fun c_123 => (absurd rfl c_123)) (fun c_123 => ?_)
    refine x_aload_n dX9_token_126 rfl ?_
    refine x_aload_n dX9_token_127 rfl ?_
    refine s_geti (ci := 9) (k := 11) (N := 20) (C := RX9) (T := TX9) dX9_token_128 lfX9_58 inX9 rfl (by decide) (rfl) rfl ?_
    rw [h.2.2.2.1]
    refine s_callV dX9_token_131 (k_letterAt τ h.1 (i := i) (by omega)) rfl w_X9_letterAt lmX9_61 im_X9_letterAt se_X9_letterAt rfl (rfl) rfl (Nat.le_of_ble_eq_true rfl) rfl (by decide) (fun v_131 σ_131 h_131 => ?_)
    obtain ⟨rfl, z_131⟩ := h_131
    have z_131 := z_131.symm
    subst z_131
    refine s_callS dX9_token_134 (k_isDigit τ _) rfl w_X9_isDigit lmX9_72 st_X9_isDigit rfl (Nat.le_of_ble_eq_true rfl) rfl (by decide) (fun v_134 σ_134 h_134 => ?_)
    obtain ⟨rfl, z_134⟩ := h_134
    have z_134 := z_134.symm
    subst z_134
    rw [hlt]
    refine x_if_eq (tgt := 195) dX9_token_137 (by decide) (fun c_137 => ?_) (fun c_137 => (absurd rfl c_137))
    exact l_tok4 hs h e1 (eva i hr (by rw [hno]; decide)) (by rw [if_neg (by decide), ← hr]; exact rnF_n (by rw [hno]; decide))
  | succ j ih =>
    intro i τ hi hsi h hr
    have hl := h.1.2.1
    have hil : i < len := by omega
    have hlt := lt_dg (len := len) (i := i) (c := c) (fun z => (h.1.2.2 i z).2)
    have hsub : nI i - nI s = nI (i - s) := nI_sub hsi
    have c1 : nI 2 ≤ nI (i - s) → ¬ i - s < 2 := fun h z => absurd h (nI_ge z (by omega))
    have c2 : ¬ nI 2 ≤ nI (i - s) → i - s < 2 := fun h => by
      rcases Nat.lt_or_ge (i - s) 2 with z | z
      · exact z
      · exact absurd (nI_le z (by omega)) h
    have h11 : τ 81 11 = nI i := h.2.2.2.1
    have h12 : τ 81 12 = 2 := h.2.2.2.2.1
    have h13 : τ 81 13 = nI s := h.2.2.1
    have h14 : τ 81 14 = nI (muF c s (i - s)) := h.2.2.2.2.2
    have e82 : τ 82 i = nI (c i) := (h.1.2.2 i hil).1
    have next : ∀ x : Int32, dgB len c i = true → x = (if i - s < 2 then (10 : Int32) * nI (muF c s (i - s)) + nI (c i) - 48 else 100) → ∀ τ2, τ2 = sg (sg τ 81 14 x) 81 11 (nI (i + 1)) → Ex (YX9_token, 2, xB0, none) 118 [.ref 81, V1] [] (xMs τ2) (xQ (fun v σ' => v = none ∧ TK len c σ' s ∧ FK σ0 σ')) := fun x hd hx τ2 e => by
      have hdi : isD (c (s + (i - s))) = true := by
        unfold dgB at hd
        rw [show s + (i - s) = i by omega]
        simp at hd
        exact hd.2
      have em := mu_s hdi
      rw [show s + (i - s) = i by omega, ← hx, show i - s + 1 = i + 1 - s by omega] at em
      have f2 : FK τ τ2 := by rw [e]; exact (FK_sg (by omega)).tr (FK_sg (by omega))
      refine ih (i + 1) τ2 (by omega) (by omega) ⟨TM_FK h.1 f2, h.2.1.tr f2, ?_, ?_, ?_, ?_⟩ (by rw [← rn_step dgB_lt hd]; exact hr)
      · rw [e, sg_k _ _ _ (by decide), sg_k _ _ _ (by decide)]; exact h13
      · rw [e, sg_s]
      · rw [e, sg_k _ _ _ (by decide), sg_k _ _ _ (by decide)]; exact h12
      · rw [e, sg_k _ _ _ (by decide), sg_s, em]
    refine x_aload_n dX9_token_118 rfl ?_
    refine s_geti (ci := 9) (k := 12) (N := 20) (C := RX9) (T := TX9) dX9_token_119 lfX9_75 inX9 rfl (by decide) (rfl) rfl ?_
    refine x_iconst (v := 2) dX9_token_122 (by decide) ?_
    rw [h12]
    refine x_icmp_ne (tgt := 195) dX9_token_123 (by decide) (fun c_123 => (absurd rfl c_123)) (fun c_123 => ?_)
    refine x_aload_n dX9_token_126 rfl ?_
    refine x_aload_n dX9_token_127 rfl ?_
    refine s_geti (ci := 9) (k := 11) (N := 20) (C := RX9) (T := TX9) dX9_token_128 lfX9_58 inX9 rfl (by decide) (rfl) rfl ?_
    rw [h11]
    refine s_callV dX9_token_131 (k_letterAt τ h.1 (i := i) (by omega)) rfl w_X9_letterAt lmX9_61 im_X9_letterAt se_X9_letterAt rfl (rfl) rfl (Nat.le_of_ble_eq_true rfl) rfl (by decide) (fun v_131 σ_131 h_131 => ?_)
    obtain ⟨rfl, z_131⟩ := h_131
    have z_131 := z_131.symm
    subst z_131
    refine s_callS dX9_token_134 (k_isDigit τ _) rfl w_X9_isDigit lmX9_72 st_X9_isDigit rfl (Nat.le_of_ble_eq_true rfl) rfl (by decide) (fun v_134 σ_134 h_134 => ?_)
    obtain ⟨rfl, z_134⟩ := h_134
    have z_134 := z_134.symm
    subst z_134
    rw [hlt]
    refine x_if_eq (tgt := 195) dX9_token_137 (by decide) (fun c_137 => ?_) (fun c_137 => ?_)
    · exact l_tok4 hs h e1 (eva i hr (by rw [bI_0.mp c_137]; decide)) (by rw [if_neg (by decide), ← hr]; exact rnF_n (by rw [bI_0.mp c_137]; decide))
    · refine x_aload_n dX9_token_140 rfl ?_
      refine x_aload_n dX9_token_141 rfl ?_
      refine s_geti (ci := 9) (k := 11) (N := 20) (C := RX9) (T := TX9) dX9_token_142 lfX9_58 inX9 rfl (by decide) (rfl) rfl ?_
      refine x_aload_n dX9_token_145 rfl ?_
      refine s_geti (ci := 9) (k := 13) (N := 20) (C := RX9) (T := TX9) dX9_token_146 lfX9_65 inX9 rfl (by decide) (rfl) rfl ?_
      rw [h11, h13]
      refine x_isub dX9_token_149 ?_
      rw [hsub]
      refine x_iconst (v := 2) dX9_token_150 (by decide) ?_
      refine x_icmp_ge (tgt := 177) dX9_token_151 (by decide) (fun c_151 => ?_) (fun c_151 => ?_)
      · refine x_bipush (v := 100) dX9_token_177 (by decide) ?_
        refine s_puti (ci := 9) (k := 14) (N := 20) (C := RX9) (T := TX9) (ty0 := tyX9) dX9_token_179 lfX9_78 inX9 tyX9_ok nmX9 rfl (by decide) rfl rfl (rfl) rfl ?_
        refine xname (fun σ_179 e_179 => ?_)
        refine x_aload_n dX9_token_182 rfl ?_
        refine x_dup dX9_token_183 rfl ?_
        refine s_geti (ci := 9) (k := 11) (N := 20) (C := RX9) (T := TX9) dX9_token_184 lfX9_58 inX9 rfl (by decide) (rfl) rfl ?_
        refine x_iconst (v := 1) dX9_token_187 (by decide) ?_
        refine x_iadd dX9_token_188 ?_
        rw [show σ_179 81 11 = nI i by rw [e_179, sg_k _ _ _ (by decide)]; exact h11, nI_1]
        refine s_puti (ci := 9) (k := 11) (N := 20) (C := RX9) (T := TX9) (ty0 := tyX9) dX9_token_189 lfX9_58 inX9 tyX9_ok nmX9 rfl (by decide) rfl rfl (rfl) rfl ?_
        refine xname (fun σ_189 e_189 => ?_)
        refine x_goto (tgt := 118) dX9_token_192 (by decide) ?_
        first
          | exact next _ (bI_n c_137) (if_neg (c1 c_151)).symm _ (by rw [e_189, e_179])
          | exact next _ (bI_n c_137) (if_pos (c2 (Int32.not_le.mpr c_151))).symm _ (by rw [e_189, e_179])
          | exact next _ (bI_n c_137) (if_pos (c2 c_151)).symm _ (by rw [e_189, e_179])
      · refine x_bipush (v := 10) dX9_token_154 (by decide) ?_
        refine x_aload_n dX9_token_156 rfl ?_
        refine s_geti (ci := 9) (k := 14) (N := 20) (C := RX9) (T := TX9) dX9_token_157 lfX9_78 inX9 rfl (by decide) (rfl) rfl ?_
        refine x_imul dX9_token_160 ?_
        refine x_aload_n dX9_token_161 rfl ?_
        refine s_getr (ci := 9) (k := 0) (N := 20) (C := RX9) (T := TX9) dX9_token_162 lfX9_7 inX9 rfl (by decide) (rfl) rfl ?_
        refine x_aload_n dX9_token_165 rfl ?_
        refine s_geti (ci := 9) (k := 11) (N := 20) (C := RX9) (T := TX9) dX9_token_166 lfX9_58 inX9 rfl (by decide) (rfl) rfl ?_
        refine s_iald dX9_token_169 (rfl) (hi := h11) (hj := by omega) (hn := by decide) ?_
        rw [e82, h14]
        refine x_iadd dX9_token_170 ?_
        refine x_bipush (v := 48) dX9_token_171 (by decide) ?_
        refine x_isub dX9_token_173 ?_
        refine x_goto (tgt := 179) dX9_token_174 (by decide) ?_
        refine s_puti (ci := 9) (k := 14) (N := 20) (C := RX9) (T := TX9) (ty0 := tyX9) dX9_token_179 lfX9_78 inX9 tyX9_ok nmX9 rfl (by decide) rfl rfl (rfl) rfl ?_
        refine xname (fun σ_179 e_179 => ?_)
        refine x_aload_n dX9_token_182 rfl ?_
        refine x_dup dX9_token_183 rfl ?_
        refine s_geti (ci := 9) (k := 11) (N := 20) (C := RX9) (T := TX9) dX9_token_184 lfX9_58 inX9 rfl (by decide) (rfl) rfl ?_
        refine x_iconst (v := 1) dX9_token_187 (by decide) ?_
        refine x_iadd dX9_token_188 ?_
        rw [show σ_179 81 11 = nI i by rw [e_179, sg_k _ _ _ (by decide)]; exact h11, nI_1]
        refine s_puti (ci := 9) (k := 11) (N := 20) (C := RX9) (T := TX9) (ty0 := tyX9) dX9_token_189 lfX9_58 inX9 tyX9_ok nmX9 rfl (by decide) rfl rfl (rfl) rfl ?_
        refine xname (fun σ_189 e_189 => ?_)
        refine x_goto (tgt := 118) dX9_token_192 (by decide) ?_
        first
          | exact next _ (bI_n c_137) (if_neg (c1 c_151)).symm _ (by rw [e_189, e_179])
          | exact next _ (bI_n c_137) (if_pos (c2 (Int32.not_le.mpr c_151))).symm _ (by rw [e_189, e_179])
          | exact next _ (bI_n c_137) (if_pos (c2 c_151)).symm _ (by rw [e_189, e_179])
set_option maxRecDepth 100000 in
theorem l_tok2 {len s : Nat} {c : Nat → Nat} {σ0 τ : Sg} {V1 : Value} (hs : s ≤ len) (h : T3 len c σ0 τ s s (soF len c s) 0) : Ex (YX9_token, 2, xB0, none) 83 [.ref 81, V1] [] (xMs τ) (xQ (fun v σ' => v = none ∧ TK len c σ' s ∧ FK σ0 σ')) := by
  have h12 : τ 81 12 = soF len c s := h.2.2.2.2.1
  by_cases h0 : s < len
  · by_cases h1 : smB len c s = true
    · have e : soF len c s = 1 := by unfold soF; rw [if_neg (fun z => z h0), if_pos h1]
      rw [e] at h
      exact l_tok3a hs h1 (len - s) s τ (by omega) h (by unfold tkE; rw [sm_dg h1, if_neg (by decide), if_pos h1])
    · by_cases h2 : dgB len c s = true
      · have e : soF len c s = 2 := by unfold soF; rw [if_neg (fun z => z h0), if_neg h1, if_pos h2]
        rw [e] at h h12
        refine x_aload_n dX9_token_83 rfl ?_
        refine s_geti (ci := 9) (k := 12) (N := 20) (C := RX9) (T := TX9) dX9_token_84 lfX9_75 inX9 rfl (by decide) (rfl) rfl ?_
        refine x_iconst (v := 1) dX9_token_87 (by decide) ?_
        rw [h12]
        refine x_icmp_ne (tgt := 118) dX9_token_88 (by decide) (fun c_88 => ?_) (fun c_88 => (absurd c_88 (by decide)))
        exact l_tok3b hs h2 (len - s) s τ (by omega) (Nat.le_refl _) (by rw [Nat.sub_self]; exact h) (by unfold tkE; rw [if_pos h2])
      · have e : soF len c s = 3 := by unfold soF; rw [if_neg (fun z => z h0), if_neg h1, if_neg h2]
        rw [e] at h h12
        refine x_aload_n dX9_token_83 rfl ?_
        refine s_geti (ci := 9) (k := 12) (N := 20) (C := RX9) (T := TX9) dX9_token_84 lfX9_75 inX9 rfl (by decide) (rfl) rfl ?_
        refine x_iconst (v := 1) dX9_token_87 (by decide) ?_
        rw [h12]
        refine x_icmp_ne (tgt := 118) dX9_token_88 (by decide) (fun c_88 => ?_) (fun c_88 => (absurd c_88 (by decide)))
        refine x_aload_n dX9_token_118 rfl ?_
        refine s_geti (ci := 9) (k := 12) (N := 20) (C := RX9) (T := TX9) dX9_token_119 lfX9_75 inX9 rfl (by decide) (rfl) rfl ?_
        refine x_iconst (v := 2) dX9_token_122 (by decide) ?_
        rw [h12]
        refine x_icmp_ne (tgt := 195) dX9_token_123 (by decide) (fun c_123 => ?_) (fun c_123 => (absurd c_123 (by decide)))
        exact l_tok4 hs h e.symm (by unfold vaF; rw [if_neg h2]) (by unfold tkE; rw [if_neg h2, if_neg h1, if_pos h0, if_pos rfl])
  · have e : soF len c s = 0 := by unfold soF; rw [if_pos h0]
    have h1 : ¬ smB len c s = true := fun z => h0 (smB_lt s z)
    have h2 : ¬ dgB len c s = true := fun z => h0 (dgB_lt s z)
    rw [e] at h h12
    refine x_aload_n dX9_token_83 rfl ?_
    refine s_geti (ci := 9) (k := 12) (N := 20) (C := RX9) (T := TX9) dX9_token_84 lfX9_75 inX9 rfl (by decide) (rfl) rfl ?_
    refine x_iconst (v := 1) dX9_token_87 (by decide) ?_
    rw [h12]
    refine x_icmp_ne (tgt := 118) dX9_token_88 (by decide) (fun c_88 => ?_) (fun c_88 => (absurd c_88 (by decide)))
    refine x_aload_n dX9_token_118 rfl ?_
    refine s_geti (ci := 9) (k := 12) (N := 20) (C := RX9) (T := TX9) dX9_token_119 lfX9_75 inX9 rfl (by decide) (rfl) rfl ?_
    refine x_iconst (v := 2) dX9_token_122 (by decide) ?_
    rw [h12]
    refine x_icmp_ne (tgt := 195) dX9_token_123 (by decide) (fun c_123 => ?_) (fun c_123 => (absurd c_123 (by decide)))
    exact l_tok4 hs h e.symm (by unfold vaF; rw [if_neg h2]) (by unfold tkE; rw [if_neg h2, if_neg h1, if_neg h0, if_neg (by decide)])
set_option maxRecDepth 100000 in
theorem l_tok1 {len S : Nat} {c : Nat → Nat} {σ0 : Sg} {V1 : Value} : ∀ (j i : Nat) (τ : Sg), i + j = len → TM τ len c → FK σ0 τ → τ 81 11 = nI i → tkS len c i = S → Ex (YX9_token, 2, xB0, none) 0 [.ref 81, V1] [] (xMs τ) (xQ (fun v σ' => v = none ∧ TK len c σ' S ∧ FK σ0 σ')) := by
  have tail : ∀ (i : Nat) (τ : Sg) (V1 : Value), i ≤ len → TM τ len c → FK σ0 τ → τ 81 11 = nI i → tkS len c i = S → ¬ blB len c i = true → Ex (YX9_token, 2, xB0, none) 26 [.ref 81, V1] [] (xMs τ) (xQ (fun v σ' => v = none ∧ TK len c σ' S ∧ FK σ0 σ')) := by
    intro i τ V1 hil hT hF h11 hS hb
    obtain rfl : S = i := by rw [← hS]; exact rnF_n hb
    have hl := hT.2.1
    have hsm := lt_sm (len := len) (i := S) (c := c) (fun z => (hT.2.2 S z).2)
    have hdg := lt_dg (len := len) (i := S) (c := c) (fun z => (hT.2.2 S z).2)
    have hlo : ltF len c S < 0 → ¬ S < len := fun z q => by rw [ltF_i q] at z; exact absurd z (nI_pos (by have := (hT.2.2 S q).2; omega))
    have hhi : ¬ ltF len c S < 0 → S < len := fun z => by
      rcases Nat.lt_or_ge S len with q | q
      · exact q
      · rw [ltF_o (by omega)] at z; exact absurd (by decide) z
    have go : ∀ x : Int32, x = soF len c S → ∀ τ2, τ2 = sg (sg (sg τ 81 13 (nI S)) 81 12 x) 81 14 0 → ∀ V1, Ex (YX9_token, 2, xB0, none) 83 [.ref 81, V1] [] (xMs τ2) (xQ (fun v σ' => v = none ∧ TK len c σ' S ∧ FK σ0 σ')) := fun x hx τ2 e V1 => by
      have f2 : FK τ τ2 := by rw [e]; exact ((FK_sg (by omega)).tr (FK_sg (by omega))).tr (FK_sg (by omega))
      refine l_tok2 hil ⟨TM_FK hT f2, hF.tr f2, ?_, ?_, ?_, ?_⟩
      · rw [e, sg_k _ _ _ (by decide), sg_k _ _ _ (by decide), sg_s]
      · rw [e, sg_k _ _ _ (by decide), sg_k _ _ _ (by decide), sg_k _ _ _ (by decide)]; exact h11
      · rw [e, sg_k _ _ _ (by decide), sg_s, hx]
      · rw [e, sg_s]; rfl
    refine x_aload_n dX9_token_26 rfl ?_
    refine x_aload_n dX9_token_27 rfl ?_
    refine s_geti (ci := 9) (k := 11) (N := 20) (C := RX9) (T := TX9) dX9_token_28 lfX9_58 inX9 rfl (by decide) (rfl) rfl ?_
    rw [h11]
    refine s_puti (ci := 9) (k := 13) (N := 20) (C := RX9) (T := TX9) (ty0 := tyX9) dX9_token_31 lfX9_65 inX9 tyX9_ok nmX9 rfl (by decide) rfl rfl (rfl) rfl ?_
    refine xname (fun σ_31 e_31 => ?_)
    refine x_aload_n dX9_token_34 rfl ?_
    refine x_aload_n dX9_token_35 rfl ?_
    refine s_geti (ci := 9) (k := 11) (N := 20) (C := RX9) (T := TX9) dX9_token_36 lfX9_58 inX9 rfl (by decide) (rfl) rfl ?_
    rw [show σ_31 81 11 = nI S by rw [e_31, sg_k _ _ _ (by decide)]; exact h11]
    refine s_callV dX9_token_39 (k_letterAt σ_31 (TM_FK hT (by rw [e_31]; exact FK_sg (by omega))) (i := S) (by omega)) rfl w_X9_letterAt lmX9_61 im_X9_letterAt se_X9_letterAt rfl (rfl) rfl (Nat.le_of_ble_eq_true rfl) rfl (by decide) (fun v_39 σ_39 h_39 => ?_)
    obtain ⟨rfl, z_39⟩ := h_39
    have z_39 := z_39.symm
    subst z_39
    refine x_istore_n dX9_token_42 (Nat.le_of_ble_eq_true rfl) rfl ?_
    refine x_aload_n dX9_token_43 rfl ?_
    refine x_iload_n dX9_token_44 rfl ?_
    refine x_if_ge (tgt := 52) dX9_token_45 (by decide) (fun c_45 => ?_) (fun c_45 => ?_)
    · refine x_iload_n dX9_token_52 rfl ?_
      refine s_callS dX9_token_53 (k_isLetter σ_31 _) rfl w_X9_isLetter lmX9_68 st_X9_isLetter rfl (Nat.le_of_ble_eq_true rfl) rfl (by decide) (fun v_53 σ_53 h_53 => ?_)
      obtain ⟨rfl, z_53⟩ := h_53
      have z_53 := z_53.symm
      subst z_53
      rw [hsm]
      refine x_if_eq (tgt := 63) dX9_token_56 (by decide) (fun c_56 => ?_) (fun c_56 => ?_)
      · refine x_iload_n dX9_token_63 rfl ?_
        refine s_callS dX9_token_64 (k_isDigit σ_31 _) rfl w_X9_isDigit lmX9_72 st_X9_isDigit rfl (Nat.le_of_ble_eq_true rfl) rfl (by decide) (fun v_64 σ_64 h_64 => ?_)
        obtain ⟨rfl, z_64⟩ := h_64
        have z_64 := z_64.symm
        subst z_64
        rw [hdg]
        refine x_if_eq (tgt := 74) dX9_token_67 (by decide) (fun c_67 => ?_) (fun c_67 => ?_)
        · refine x_iconst (v := 3) dX9_token_74 (by decide) ?_
          refine s_puti (ci := 9) (k := 12) (N := 20) (C := RX9) (T := TX9) (ty0 := tyX9) dX9_token_75 lfX9_75 inX9 tyX9_ok nmX9 rfl (by decide) rfl rfl (rfl) rfl ?_
          refine xname (fun σ_75 e_75 => ?_)
          refine x_aload_n dX9_token_78 rfl ?_
          refine x_iconst (v := 0) dX9_token_79 (by decide) ?_
          refine s_puti (ci := 9) (k := 14) (N := 20) (C := RX9) (T := TX9) (ty0 := tyX9) dX9_token_80 lfX9_78 inX9 tyX9_ok nmX9 rfl (by decide) rfl rfl (rfl) rfl ?_
          refine xname (fun σ_80 e_80 => ?_)
          refine go _ ?_ _ (by rw [e_80, e_75, e_31]) _
          unfold soF
          first
            | (rw [if_pos (hlo (Int32.not_le.mp c_45))]; done)
            | (rw [if_neg (fun z => z (hhi c_45)), if_pos (bI_n c_56)]; done)
            | (rw [if_neg (fun z => z (hhi c_45)), bI_0.mp c_56, if_neg (by decide), if_pos (bI_n c_67)]; done)
            | (rw [if_neg (fun z => z (hhi c_45)), bI_0.mp c_56, if_neg (by decide), bI_0.mp c_67, if_neg (by decide)]; done)
            | (rw [if_neg (fun z => z (hhi (Int32.not_lt.mpr c_45))), if_pos (bI_n c_56)]; done)
            | (rw [if_neg (fun z => z (hhi (Int32.not_lt.mpr c_45))), bI_0.mp c_56, if_neg (by decide), if_pos (bI_n c_67)]; done)
            | (rw [if_neg (fun z => z (hhi (Int32.not_lt.mpr c_45))), bI_0.mp c_56, if_neg (by decide), bI_0.mp c_67, if_neg (by decide)]; done)
        · refine x_iconst (v := 2) dX9_token_70 (by decide) ?_
          refine x_goto (tgt := 75) dX9_token_71 (by decide) ?_
          refine s_puti (ci := 9) (k := 12) (N := 20) (C := RX9) (T := TX9) (ty0 := tyX9) dX9_token_75 lfX9_75 inX9 tyX9_ok nmX9 rfl (by decide) rfl rfl (rfl) rfl ?_
          refine xname (fun σ_75 e_75 => ?_)
          refine x_aload_n dX9_token_78 rfl ?_
          refine x_iconst (v := 0) dX9_token_79 (by decide) ?_
          refine s_puti (ci := 9) (k := 14) (N := 20) (C := RX9) (T := TX9) (ty0 := tyX9) dX9_token_80 lfX9_78 inX9 tyX9_ok nmX9 rfl (by decide) rfl rfl (rfl) rfl ?_
          refine xname (fun σ_80 e_80 => ?_)
          refine go _ ?_ _ (by rw [e_80, e_75, e_31]) _
          unfold soF
          first
            | (rw [if_pos (hlo (Int32.not_le.mp c_45))]; done)
            | (rw [if_neg (fun z => z (hhi c_45)), if_pos (bI_n c_56)]; done)
            | (rw [if_neg (fun z => z (hhi c_45)), bI_0.mp c_56, if_neg (by decide), if_pos (bI_n c_67)]; done)
            | (rw [if_neg (fun z => z (hhi c_45)), bI_0.mp c_56, if_neg (by decide), bI_0.mp c_67, if_neg (by decide)]; done)
            | (rw [if_neg (fun z => z (hhi (Int32.not_lt.mpr c_45))), if_pos (bI_n c_56)]; done)
            | (rw [if_neg (fun z => z (hhi (Int32.not_lt.mpr c_45))), bI_0.mp c_56, if_neg (by decide), if_pos (bI_n c_67)]; done)
            | (rw [if_neg (fun z => z (hhi (Int32.not_lt.mpr c_45))), bI_0.mp c_56, if_neg (by decide), bI_0.mp c_67, if_neg (by decide)]; done)
      · refine x_iconst (v := 1) dX9_token_59 (by decide) ?_
        refine x_goto (tgt := 75) dX9_token_60 (by decide) ?_
        refine s_puti (ci := 9) (k := 12) (N := 20) (C := RX9) (T := TX9) (ty0 := tyX9) dX9_token_75 lfX9_75 inX9 tyX9_ok nmX9 rfl (by decide) rfl rfl (rfl) rfl ?_
        refine xname (fun σ_75 e_75 => ?_)
        refine x_aload_n dX9_token_78 rfl ?_
        refine x_iconst (v := 0) dX9_token_79 (by decide) ?_
        refine s_puti (ci := 9) (k := 14) (N := 20) (C := RX9) (T := TX9) (ty0 := tyX9) dX9_token_80 lfX9_78 inX9 tyX9_ok nmX9 rfl (by decide) rfl rfl (rfl) rfl ?_
        refine xname (fun σ_80 e_80 => ?_)
        refine go _ ?_ _ (by rw [e_80, e_75, e_31]) _
        unfold soF
        first
          | (rw [if_pos (hlo (Int32.not_le.mp c_45))]; done)
          | (rw [if_neg (fun z => z (hhi c_45)), if_pos (bI_n c_56)]; done)
          | (rw [if_neg (fun z => z (hhi c_45)), bI_0.mp c_56, if_neg (by decide), if_pos (bI_n c_67)]; done)
          | (rw [if_neg (fun z => z (hhi c_45)), bI_0.mp c_56, if_neg (by decide), bI_0.mp c_67, if_neg (by decide)]; done)
          | (rw [if_neg (fun z => z (hhi (Int32.not_lt.mpr c_45))), if_pos (bI_n c_56)]; done)
          | (rw [if_neg (fun z => z (hhi (Int32.not_lt.mpr c_45))), bI_0.mp c_56, if_neg (by decide), if_pos (bI_n c_67)]; done)
          | (rw [if_neg (fun z => z (hhi (Int32.not_lt.mpr c_45))), bI_0.mp c_56, if_neg (by decide), bI_0.mp c_67, if_neg (by decide)]; done)
    · refine x_iconst (v := 0) dX9_token_48 (by decide) ?_
      refine x_goto (tgt := 75) dX9_token_49 (by decide) ?_
      refine s_puti (ci := 9) (k := 12) (N := 20) (C := RX9) (T := TX9) (ty0 := tyX9) dX9_token_75 lfX9_75 inX9 tyX9_ok nmX9 rfl (by decide) rfl rfl (rfl) rfl ?_
      refine xname (fun σ_75 e_75 => ?_)
      refine x_aload_n dX9_token_78 rfl ?_
      refine x_iconst (v := 0) dX9_token_79 (by decide) ?_
      refine s_puti (ci := 9) (k := 14) (N := 20) (C := RX9) (T := TX9) (ty0 := tyX9) dX9_token_80 lfX9_78 inX9 tyX9_ok nmX9 rfl (by decide) rfl rfl (rfl) rfl ?_
      refine xname (fun σ_80 e_80 => ?_)
      refine go _ ?_ _ (by rw [e_80, e_75, e_31]) _
      unfold soF
      first
        | (rw [if_pos (hlo (Int32.not_le.mp c_45))]; done)
        | (rw [if_neg (fun z => z (hhi c_45)), if_pos (bI_n c_56)]; done)
        | (rw [if_neg (fun z => z (hhi c_45)), bI_0.mp c_56, if_neg (by decide), if_pos (bI_n c_67)]; done)
        | (rw [if_neg (fun z => z (hhi c_45)), bI_0.mp c_56, if_neg (by decide), bI_0.mp c_67, if_neg (by decide)]; done)
        | (rw [if_neg (fun z => z (hhi (Int32.not_lt.mpr c_45))), if_pos (bI_n c_56)]; done)
        | (rw [if_neg (fun z => z (hhi (Int32.not_lt.mpr c_45))), bI_0.mp c_56, if_neg (by decide), if_pos (bI_n c_67)]; done)
        | (rw [if_neg (fun z => z (hhi (Int32.not_lt.mpr c_45))), bI_0.mp c_56, if_neg (by decide), bI_0.mp c_67, if_neg (by decide)]; done)
  intro j
  induction j with
  | zero =>
    intro i τ hi hT hF h11 hS
    have hno : ¬ blB len c i = true := fun q => by have := blB_lt i q; omega
    have hl := hT.2.1
    have hlt := lt_bl (len := len) (i := i) (c := c) (fun z => (hT.2.2 i z).2)
    refine x_aload_n dX9_token_0 rfl ?_
    refine x_aload_n dX9_token_1 rfl ?_
    refine s_geti (ci := 9) (k := 11) (N := 20) (C := RX9) (T := TX9) dX9_token_2 lfX9_58 inX9 rfl (by decide) (rfl) rfl ?_
    rw [h11]
    refine s_callV dX9_token_5 (k_letterAt τ hT (i := i) (by omega)) rfl w_X9_letterAt lmX9_61 im_X9_letterAt se_X9_letterAt rfl (rfl) rfl (Nat.le_of_ble_eq_true rfl) rfl (by decide) (fun v_5 σ_5 h_5 => ?_)
    obtain ⟨rfl, z_5⟩ := h_5
    have z_5 := z_5.symm
    subst z_5
    refine x_bipush (v := 32) dX9_token_8 (by decide) ?_
    refine x_icmp_ne (tgt := 26) dX9_token_10 (by decide) (fun c_10 => ?_) (fun c_10 => (absurd (hlt.mp c_10) hno))
    exact tail i τ _ (by omega) hT hF h11 hS hno
  | succ j ih =>
    intro i τ hi hT hF h11 hS
    have hl := hT.2.1
    have hlt := lt_bl (len := len) (i := i) (c := c) (fun z => (hT.2.2 i z).2)
    have f2 : ∀ x, FK τ (sg τ 81 11 x) := fun x => FK_sg (by omega)
    refine x_aload_n dX9_token_0 rfl ?_
    refine x_aload_n dX9_token_1 rfl ?_
    refine s_geti (ci := 9) (k := 11) (N := 20) (C := RX9) (T := TX9) dX9_token_2 lfX9_58 inX9 rfl (by decide) (rfl) rfl ?_
    rw [h11]
    refine s_callV dX9_token_5 (k_letterAt τ hT (i := i) (by omega)) rfl w_X9_letterAt lmX9_61 im_X9_letterAt se_X9_letterAt rfl (rfl) rfl (Nat.le_of_ble_eq_true rfl) rfl (by decide) (fun v_5 σ_5 h_5 => ?_)
    obtain ⟨rfl, z_5⟩ := h_5
    have z_5 := z_5.symm
    subst z_5
    refine x_bipush (v := 32) dX9_token_8 (by decide) ?_
    refine x_icmp_ne (tgt := 26) dX9_token_10 (by decide) (fun c_10 => ?_) (fun c_10 => ?_)
    · exact tail i τ _ (by omega) hT hF h11 hS (fun z => c_10 (hlt.mpr z))
    · refine x_aload_n dX9_token_13 rfl ?_
      refine x_dup dX9_token_14 rfl ?_
      refine s_geti (ci := 9) (k := 11) (N := 20) (C := RX9) (T := TX9) dX9_token_15 lfX9_58 inX9 rfl (by decide) (rfl) rfl ?_
      refine x_iconst (v := 1) dX9_token_18 (by decide) ?_
      rw [h11]
      refine x_iadd dX9_token_19 ?_
      rw [nI_1]
      refine s_puti (ci := 9) (k := 11) (N := 20) (C := RX9) (T := TX9) (ty0 := tyX9) dX9_token_20 lfX9_58 inX9 tyX9_ok nmX9 rfl (by decide) rfl rfl (rfl) rfl ?_
      refine x_goto (tgt := 0) dX9_token_23 (by decide) ?_
      exact ih (i + 1) _ (by omega) (TM_FK hT (f2 _)) (hF.tr (f2 _)) (sg_s _ _ _ _) (by rw [← hS]; exact (rn_step blB_lt (hlt.mp c_10)).symm)
set_option maxRecDepth 100000 in
theorem k_token (σ : Sg) {len e : Nat} {c : Nat → Nat} (hT : TM σ len c) (he : e ≤ len) (h11 : σ 81 11 = nI e) : Cm 2 YX9_token [.ref 81] σ (fun v σ' => v = none ∧ TK len c σ' (tkS len c e) ∧ FK σ σ') := by
  refine Cm_of (by decide +kernel) (Nat.le_of_ble_eq_true rfl) ?_
  exact l_tok1 (len - e) e σ (by omega) hT ⟨fun _ _ => rfl, fun _ _ => rfl⟩ h11 rfl
