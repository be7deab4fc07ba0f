/-! ===== readClause, read, fault, town ===== -/
section XRD
variable {len : Nat} {c : Nat → Nat} {σ0 σ : Sg} {s : Nat} {p : PL}
theorem RS.clear (h : RS len c σ0 σ s p) : RS len c σ0 (sg (sg (sg σ 9 5 0) 9 6 30) 9 7 8) s tnP := by
  obtain ⟨h1, h2, h3, h4, h5, h6, h7, h8, h9⟩ := h
  refine ⟨⟨h1.1, h1.2.1, h1.2.2⟩, h2, h3, h4, by rw [sg_k _ _ _ (by decide), sg_k _ _ _ (by decide), sg_s]; rfl, Nat.zero_le 8, ?_, h8, fun c x y => by rw [sg_n _ _ _ (by omega), sg_n _ _ _ (by omega), sg_n _ _ _ (by omega)]; exact h9 c x y⟩
  show (0, _, _, tr 0 _, tr 0 _, tr 0 _, tr 0 _, tr 0 _) = tnP
  rw [tr_0, tr_0, tr_0, tr_0, tr_0, sg_k _ _ _ (by decide), sg_s, sg_s]
  rfl
theorem RS.cap (h : RS len c σ0 σ s p) (x : Nat) : RS len c σ0 (sg σ 9 6 (nI x)) s (cpP p x) := by
  obtain ⟨h1, h2, h3, h4, h5, h6, h7, h8, h9⟩ := h
  refine ⟨⟨h1.1, h1.2.1, h1.2.2⟩, h2, h3, h4, by rw [sg_k _ _ _ (by decide)]; exact h5, h6, ?_, h8, fun c x y => by rw [sg_n _ _ _ (by omega)]; exact h9 c x y⟩
  have g := h7
  unfold plP at g
  unfold cpP
  rw [← g]
  show (p.1, sg σ 9 6 (nI x) 9 6, sg σ 9 6 (nI x) 9 7, _) = _
  rw [sg_s, sg_k _ _ _ (by decide)]
  rfl
theorem RS.inch (h : RS len c σ0 σ s p) (x : Nat) : RS len c σ0 (sg σ 9 7 (nI x)) s (inP p x) := by
  obtain ⟨h1, h2, h3, h4, h5, h6, h7, h8, h9⟩ := h
  refine ⟨⟨h1.1, h1.2.1, h1.2.2⟩, h2, h3, h4, by rw [sg_k _ _ _ (by decide)]; exact h5, h6, ?_, h8, fun c x y => by rw [sg_n _ _ _ (by omega)]; exact h9 c x y⟩
  have g := h7
  unfold plP at g
  unfold inP
  rw [← g]
  show (p.1, sg σ 9 7 (nI x) 9 6, sg σ 9 7 (nI x) 9 7, _) = _
  rw [sg_s, sg_k _ _ _ (by decide)]
  rfl
end XRD
theorem RSF_in {len : Nat} {c : Nat → Nat} {σ0 σ' : Sg} {v : Option Value} {r : Nat ⊕ (PL × Nat)} (h : RSF len c σ0 σ' v r) : v = some (.int 0) ∨ v = some (.int 1) := by
  cases r with
  | inl f => exact Or.inl h.1
  | inr q => exact Or.inr h.1
set_option maxRecDepth 100000 in
set_option maxHeartbeats 1000000 in
theorem k_readClause (σ0 σ : Sg) {len s : Nat} {c : Nat → Nat} {p : PL} (h : RS len c σ0 σ s p) : Cm 6 YX7_readClause [.ref 1, .ref 9] σ (fun v σ' => RSF len c σ0 σ' v (clsF len c p s)) := by
  refine Cm_of (by decide +kernel) (Nat.le_of_ble_eq_true rfl) ?_
  unfold clsF
  have hst := tkE_ge len c s
  have htl := tkE_le (c := c) h.2.1
  have bn : ∀ {b : Bool}, bI b = 0 → ¬ b = true := fun h z => by rw [z] at h; exact absurd h (by decide)
  have hm1 : ∀ m : Nat, m < 200 → ¬ nI m = -1 := fun m hm z => by have := nI_pos' (n := m) (by omega); rw [z] at this; exact absurd this (by decide)

  refine x_aload_n dX7_readClause_0 rfl ?_
  refine x_ldcs (i := 0) dX7_readClause_1 rfl (by decide) rfl ?_
  refine s_callV dX7_readClause_3 (k_isWord σ (i := 0) h.1 h.2.2.1 h.2.2.2.1 hst htl (by decide)) rfl w_X7_isWord lmX7_59 im_X7_isWord se_X7_isWord rfl (rfl) rfl (Nat.le_of_ble_eq_true rfl) rfl (by decide) (fun v_3 σ_3 h_3 => ?_)
  obtain ⟨rfl, z_3⟩ := h_3
  have z_3 := z_3.symm
  subst z_3
  refine x_if_eq (tgt := 19) dX7_readClause_6 (by decide) (fun c_6 => ?_) (fun c_6 => ?_)
  · refine x_aload_n dX7_readClause_19 rfl ?_
    refine x_ldcs (i := 1) dX7_readClause_20 rfl (by decide) rfl ?_
    refine s_callV dX7_readClause_22 (k_isWord σ (i := 1) h.1 h.2.2.1 h.2.2.2.1 hst htl (by decide)) rfl w_X7_isWord lmX7_59 im_X7_isWord se_X7_isWord rfl (rfl) rfl (Nat.le_of_ble_eq_true rfl) rfl (by decide) (fun v_22 σ_22 h_22 => ?_)
    obtain ⟨rfl, z_22⟩ := h_22
    have z_22 := z_22.symm
    subst z_22
    refine x_if_eq (tgt := 34) dX7_readClause_25 (by decide) (fun c_25 => ?_) (fun c_25 => ?_)
    · refine x_aload_n dX7_readClause_34 rfl ?_
      refine x_ldcs (i := 2) dX7_readClause_35 rfl (by decide) rfl ?_
      refine s_callV dX7_readClause_37 (k_isWord σ (i := 2) h.1 h.2.2.1 h.2.2.2.1 hst htl (by decide)) rfl w_X7_isWord lmX7_59 im_X7_isWord se_X7_isWord rfl (rfl) rfl (Nat.le_of_ble_eq_true rfl) rfl (by decide) (fun v_37 σ_37 h_37 => ?_)
      obtain ⟨rfl, z_37⟩ := h_37
      have z_37 := z_37.symm
      subst z_37
      refine x_if_eq (tgt := 84) dX7_readClause_40 (by decide) (fun c_40 => ?_) (fun c_40 => ?_)
      · refine x_aload_n dX7_readClause_84 rfl ?_
        refine x_ldcs (i := 3) dX7_readClause_85 rfl (by decide) rfl ?_
        refine s_callV dX7_readClause_87 (k_isWord σ (i := 3) h.1 h.2.2.1 h.2.2.2.1 hst htl (by decide)) rfl w_X7_isWord lmX7_59 im_X7_isWord se_X7_isWord rfl (rfl) rfl (Nat.le_of_ble_eq_true rfl) rfl (by decide) (fun v_87 σ_87 h_87 => ?_)
        obtain ⟨rfl, z_87⟩ := h_87
        have z_87 := z_87.symm
        subst z_87
        refine x_if_eq (tgt := 134) dX7_readClause_90 (by decide) (fun c_90 => ?_) (fun c_90 => ?_)
        · refine x_aload_n dX7_readClause_134 rfl ?_
          refine x_aload_n dX7_readClause_135 rfl ?_
          refine x_aload_n dX7_readClause_136 rfl ?_
          rw [if_neg (bn c_6), if_neg (bn c_25), if_neg (bn c_40), if_neg (bn c_90)]
          refine s_callV dX7_readClause_137 (k_kindOfWord σ h.1 h.2.2.1 h.2.2.2.1 hst htl) rfl w_X7_kindOfWord lmX7_83 im_X7_kindOfWord se_X7_kindOfWord rfl (rfl) rfl (Nat.le_of_ble_eq_true rfl) rfl (by decide) (fun v_137 σ_137 h_137 => ?_)
          obtain ⟨rfl, z_137⟩ := h_137
          have z_137 := z_137.symm
          subst z_137
          refine s_callV dX7_readClause_140 (k_readStreet σ0 σ h (kwF c s (tkE len c s))) rfl w_X7_readStreet lmX7_86 im_X7_readStreet se_X7_readStreet rfl (rfl) rfl (Nat.le_of_ble_eq_true rfl) rfl (by decide) (fun v_140 σ_140 h_140 => ?_)
          skip
          rcases RSF_in h_140 with rfl | rfl
          · exact s_zret dX7_readClause_143 rfl (Or.inl rfl) h_140
          · exact s_zret dX7_readClause_143 rfl (Or.inr rfl) h_140
        · refine x_aload_n dX7_readClause_93 rfl ?_
          rw [if_neg (bn c_6), if_neg (bn c_25), if_neg (bn c_40), if_pos (bI_n c_90)]
          refine s_callV dX7_readClause_94 (k_stepR h) rfl w_X7_step lmX7_34 im_X7_step se_X7_step rfl (rfl) rfl (Nat.le_of_ble_eq_true rfl) rfl (by decide) (fun v_94 σ_94 h_94 => ?_)
          obtain ⟨rfl, rfl⟩ := h_94
          have r1 := h.mv
          refine x_aload_n dX7_readClause_97 rfl ?_
          refine x_iconst (v := 1) dX7_readClause_98 (by decide) ?_
          refine x_bipush (v := 20) dX7_readClause_99 (by decide) ?_
          refine x_iconst (v := -1) dX7_readClause_101 (by decide) ?_
          refine s_callV dX7_readClause_102 (k_rnR r1 1 20 (-1)) rfl w_X7_readNumber lmX7_73 im_X7_readNumber se_X7_readNumber rfl (rfl) rfl (Nat.le_of_ble_eq_true rfl) rfl (by decide) (fun v_102 σ_102 h_102 => ?_)
          skip
          rcases h_102 with ⟨b1, rfl, rfl⟩ | ⟨b1, rfl, rfl⟩
          · rw [if_neg (by rw [b1]; decide)]
            have r2 := r1.mv
            have d1 := rdV_99 b1
            refine x_istore_n dX7_readClause_105 (Nat.le_of_ble_eq_true rfl) rfl ?_
            refine x_aload_n dX7_readClause_106 rfl ?_
            refine x_iload_n dX7_readClause_107 rfl ?_
            refine x_iconst (v := -1) dX7_readClause_108 (by decide) ?_
            refine x_icmp_ne (tgt := 119) dX7_readClause_109 (by decide) (fun c_109 => ?_) (fun c_109 => (absurd c_109 (hm1 _ (by omega))))
            refine x_iload_n dX7_readClause_119 rfl ?_
            refine s_putiN (ci := 3) (k := 7) (N := 8) (C := RX3) (T := TX3) (ty0 := tyX3) dX7_readClause_120 lfX7_81 inX3 tyX3_ok nmX3 rfl (by decide) rfl rfl (rfl) rfl ?_
            refine x_iload_n dX7_readClause_123 rfl ?_
            refine x_iconst (v := -1) dX7_readClause_124 (by decide) ?_
            refine x_icmp_eq (tgt := 132) dX7_readClause_125 (by decide) (fun c_125 => (absurd c_125 (hm1 _ (by omega)))) (fun c_125 => ?_)
            refine x_iconst (v := 1) dX7_readClause_128 (by decide) ?_
            refine x_goto (tgt := 133) dX7_readClause_129 (by decide) ?_
            exact s_zret dX7_readClause_133 rfl (by first | exact Or.inl rfl | exact Or.inr rfl | assumption) (⟨rfl, r2.inch _⟩)
          · rw [if_pos b1]
            refine x_istore_n dX7_readClause_105 (Nat.le_of_ble_eq_true rfl) rfl ?_
            refine x_aload_n dX7_readClause_106 rfl ?_
            refine x_iload_n dX7_readClause_107 rfl ?_
            refine x_iconst (v := -1) dX7_readClause_108 (by decide) ?_
            refine x_icmp_ne (tgt := 119) dX7_readClause_109 (by decide) (fun c_109 => (absurd rfl c_109)) (fun c_109 => ?_)
            refine x_aload_n dX7_readClause_112 rfl ?_
            refine s_getiN (ci := 3) (k := 7) (N := 8) (C := RX3) (T := TX3) dX7_readClause_113 lfX7_81 inX3 rfl (by decide) (rfl) rfl ?_
            refine x_goto (tgt := 120) dX7_readClause_116 (by decide) ?_
            refine s_putiN (ci := 3) (k := 7) (N := 8) (C := RX3) (T := TX3) (ty0 := tyX3) dX7_readClause_120 lfX7_81 inX3 tyX3_ok nmX3 rfl (by decide) rfl rfl (rfl) rfl ?_
            rw [sg_idn]
            refine x_iload_n dX7_readClause_123 rfl ?_
            refine x_iconst (v := -1) dX7_readClause_124 (by decide) ?_
            refine x_icmp_eq (tgt := 132) dX7_readClause_125 (by decide) (fun c_125 => ?_) (fun c_125 => (absurd rfl c_125))
            refine x_iconst (v := 0) dX7_readClause_132 (by decide) ?_
            exact s_zret dX7_readClause_133 rfl (by first | exact Or.inl rfl | exact Or.inr rfl | assumption) (⟨rfl, r1.fs⟩)
      · refine x_aload_n dX7_readClause_43 rfl ?_
        rw [if_neg (bn c_6), if_neg (bn c_25), if_pos (bI_n c_40)]
        refine s_callV dX7_readClause_44 (k_stepR h) rfl w_X7_step lmX7_34 im_X7_step se_X7_step rfl (rfl) rfl (Nat.le_of_ble_eq_true rfl) rfl (by decide) (fun v_44 σ_44 h_44 => ?_)
        obtain ⟨rfl, rfl⟩ := h_44
        have r1 := h.mv
        refine x_aload_n dX7_readClause_47 rfl ?_
        refine x_iconst (v := 5) dX7_readClause_48 (by decide) ?_
        refine x_bipush (v := 99) dX7_readClause_49 (by decide) ?_
        refine x_iconst (v := -1) dX7_readClause_51 (by decide) ?_
        refine s_callV dX7_readClause_52 (k_rnR r1 5 99 (-1)) rfl w_X7_readNumber lmX7_73 im_X7_readNumber se_X7_readNumber rfl (rfl) rfl (Nat.le_of_ble_eq_true rfl) rfl (by decide) (fun v_52 σ_52 h_52 => ?_)
        skip
        rcases h_52 with ⟨b1, rfl, rfl⟩ | ⟨b1, rfl, rfl⟩
        · rw [if_neg (by rw [b1]; decide)]
          have r2 := r1.mv
          have d1 := rdV_99 b1
          refine x_istore_n dX7_readClause_55 (Nat.le_of_ble_eq_true rfl) rfl ?_
          refine x_aload_n dX7_readClause_56 rfl ?_
          refine x_iload_n dX7_readClause_57 rfl ?_
          refine x_iconst (v := -1) dX7_readClause_58 (by decide) ?_
          refine x_icmp_ne (tgt := 69) dX7_readClause_59 (by decide) (fun c_59 => ?_) (fun c_59 => (absurd c_59 (hm1 _ (by omega))))
          refine x_iload_n dX7_readClause_69 rfl ?_
          refine s_putiN (ci := 3) (k := 6) (N := 8) (C := RX3) (T := TX3) (ty0 := tyX3) dX7_readClause_70 lfX7_77 inX3 tyX3_ok nmX3 rfl (by decide) rfl rfl (rfl) rfl ?_
          refine x_iload_n dX7_readClause_73 rfl ?_
          refine x_iconst (v := -1) dX7_readClause_74 (by decide) ?_
          refine x_icmp_eq (tgt := 82) dX7_readClause_75 (by decide) (fun c_75 => (absurd c_75 (hm1 _ (by omega)))) (fun c_75 => ?_)
          refine x_iconst (v := 1) dX7_readClause_78 (by decide) ?_
          refine x_goto (tgt := 83) dX7_readClause_79 (by decide) ?_
          exact s_zret dX7_readClause_83 rfl (by first | exact Or.inl rfl | exact Or.inr rfl | assumption) (⟨rfl, r2.cap _⟩)
        · rw [if_pos b1]
          refine x_istore_n dX7_readClause_55 (Nat.le_of_ble_eq_true rfl) rfl ?_
          refine x_aload_n dX7_readClause_56 rfl ?_
          refine x_iload_n dX7_readClause_57 rfl ?_
          refine x_iconst (v := -1) dX7_readClause_58 (by decide) ?_
          refine x_icmp_ne (tgt := 69) dX7_readClause_59 (by decide) (fun c_59 => (absurd rfl c_59)) (fun c_59 => ?_)
          refine x_aload_n dX7_readClause_62 rfl ?_
          refine s_getiN (ci := 3) (k := 6) (N := 8) (C := RX3) (T := TX3) dX7_readClause_63 lfX7_77 inX3 rfl (by decide) (rfl) rfl ?_
          refine x_goto (tgt := 70) dX7_readClause_66 (by decide) ?_
          refine s_putiN (ci := 3) (k := 6) (N := 8) (C := RX3) (T := TX3) (ty0 := tyX3) dX7_readClause_70 lfX7_77 inX3 tyX3_ok nmX3 rfl (by decide) rfl rfl (rfl) rfl ?_
          rw [sg_idn]
          refine x_iload_n dX7_readClause_73 rfl ?_
          refine x_iconst (v := -1) dX7_readClause_74 (by decide) ?_
          refine x_icmp_eq (tgt := 82) dX7_readClause_75 (by decide) (fun c_75 => ?_) (fun c_75 => (absurd rfl c_75))
          refine x_iconst (v := 0) dX7_readClause_82 (by decide) ?_
          exact s_zret dX7_readClause_83 rfl (by first | exact Or.inl rfl | exact Or.inr rfl | assumption) (⟨rfl, r1.fs⟩)
    · refine x_aload_n dX7_readClause_28 rfl ?_
      refine x_aload_n dX7_readClause_29 rfl ?_
      rw [if_neg (bn c_6), if_pos (bI_n c_25)]
      refine s_callV dX7_readClause_30 (k_readSlope σ0 σ h) rfl w_X7_readSlope lmX7_68 im_X7_readSlope se_X7_readSlope rfl (rfl) rfl (Nat.le_of_ble_eq_true rfl) rfl (by decide) (fun v_30 σ_30 h_30 => ?_)
      skip
      rcases RSF_in h_30 with rfl | rfl
      · exact s_zret dX7_readClause_33 rfl (Or.inl rfl) h_30
      · exact s_zret dX7_readClause_33 rfl (Or.inr rfl) h_30
  · refine x_aload_n dX7_readClause_9 rfl ?_
    rw [if_pos (bI_n c_6)]
    refine s_callV dX7_readClause_10 (k_plclear σ) rfl w_X3_clear lmX7_63 im_X3_clear se_X3_clear rfl (rfl) rfl (Nat.le_of_ble_eq_true rfl) rfl (by decide) (fun v_10 σ_10 h_10 => ?_)
    obtain ⟨rfl, rfl⟩ := h_10
    have r1 := h.clear
    refine x_aload_n dX7_readClause_13 rfl ?_
    refine s_callV dX7_readClause_14 (k_stepR r1) rfl w_X7_step lmX7_34 im_X7_step se_X7_step rfl (rfl) rfl (Nat.le_of_ble_eq_true rfl) rfl (by decide) (fun v_14 σ_14 h_14 => ?_)
    obtain ⟨rfl, rfl⟩ := h_14
    refine x_iconst (v := 1) dX7_readClause_17 (by decide) ?_
    exact s_zret dX7_readClause_18 rfl (by first | exact Or.inl rfl | exact Or.inr rfl | assumption) (⟨rfl, r1.mv⟩)
