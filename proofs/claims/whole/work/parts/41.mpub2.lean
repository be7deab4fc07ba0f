/-! ===== RainBallotModel's calls, 2 ===== -/

theorem fM_90 (σ : Sg) (V : FN) : fM σ (sw σ 90 V) := ⟨fun _ _ => rfl, fun _ => rfl, fun _ _ _ h _ => sw_n _ _ h⟩
set_option maxRecDepth 100000 in
theorem k_mstreet_o (σ : Sg) {n k : Nat} (hn : σ 83 0 = nI n) (hn8 : n ≤ 8) (hb : NB σ) (hk : k < n) (w : Int32) (h : rgF 0 6 w = false) : Cm 12 YX9_street [.ref 81, .int (nI k), .int w] σ (fun v σ' => v = some (.int (-3)) ∧ fM σ σ') := by
  refine Cm_of (by decide +kernel) (Nat.le_of_ble_eq_true rfl) ?_
  refine x_aload_n dX9_street_0 rfl ?_
  refine x_iload_n dX9_street_1 rfl ?_
  refine s_callV dX9_street_2 (k_isStreet σ hn hn8 _) rfl w_X9_isStreet lmX9_129 im_X9_isStreet se_X9_isStreet rfl (rfl) rfl (Nat.le_of_ble_eq_true rfl) rfl (by decide) (fun v_2 σ_2 h_2 => ?_)
  obtain ⟨rfl, z_2⟩ := h_2
  have z_2 := z_2.symm
  subst z_2
  refine x_if_ne (tgt := 11) dX9_street_5 (by decide) (fun c_5 => ?_) (fun c_5 => (absurd c_5 (by rw [inb_nI hk (by omega)]; decide)))
  refine x_aload_n dX9_street_11 rfl ?_
  refine s_callV dX9_street_12 (k_counts σ hn hn8 (by decide) (by decide) (Or.inl rfl) hb.1 hb.2.1 hb.2.2) rfl w_X9_counts lmX9_126 im_X9_counts se_X9_counts rfl (rfl) rfl (Nat.le_of_ble_eq_true rfl) rfl (by decide) (fun v_12 σ_12 h_12 => ?_)
  obtain ⟨rfl, V, hV, rfl⟩ := h_12
  refine x_iload_n dX9_street_15 rfl ?_
  refine x_tabOut (tgt := 119) dX9_street_16 (rgF_sw (b := 6) (by decide) h) (by decide) ?_
  refine x_bipush (v := -3) dX9_street_119 (by decide) ?_
  exact s_iret dX9_street_121 rfl (⟨rfl, fM_90 _ _⟩)
set_option maxRecDepth 100000 in
theorem k_mstreet (σ : Sg) {n k : Nat} (hn : σ 83 0 = nI n) (hn8 : n ≤ 8) (hb : NB σ) (hk : k < n) {w : Nat} (hw : w < 7) : Cm 12 YX9_street [.ref 81, .int (nI k), .int (nI w)] σ (fun v σ' => v = some (.int (stV (plM n σ 83) (moS n σ) k w)) ∧ fM σ σ') := by
  refine Cm_of (by decide +kernel) (Nat.le_of_ble_eq_true rfl) ?_
  have hw7 : w = 0 ∨ w = 1 ∨ w = 2 ∨ w = 3 ∨ w = 4 ∨ w = 5 ∨ w = 6 := by omega
  rcases hw7 with rfl | rfl | rfl | rfl | rfl | rfl | rfl
  · skip
    refine x_aload_n dX9_street_0 rfl ?_
    refine x_iload_n dX9_street_1 rfl ?_
    refine s_callV dX9_street_2 (k_isStreet σ hn hn8 _) rfl w_X9_isStreet lmX9_129 im_X9_isStreet se_X9_isStreet rfl (rfl) rfl (Nat.le_of_ble_eq_true rfl) rfl (by decide) (fun v_2 σ_2 h_2 => ?_)
    obtain ⟨rfl, z_2⟩ := h_2
    have z_2 := z_2.symm
    subst z_2
    refine x_if_ne (tgt := 11) dX9_street_5 (by decide) (fun c_5 => ?_) (fun c_5 => (absurd c_5 (by rw [inb_nI hk (by omega)]; decide)))
    refine x_aload_n dX9_street_11 rfl ?_
    refine s_callV dX9_street_12 (k_counts σ hn hn8 (by decide) (by decide) (Or.inl rfl) hb.1 hb.2.1 hb.2.2) rfl w_X9_counts lmX9_126 im_X9_counts se_X9_counts rfl (rfl) rfl (Nat.le_of_ble_eq_true rfl) rfl (by decide) (fun v_12 σ_12 h_12 => ?_)
    obtain ⟨rfl, V, hV, rfl⟩ := h_12
    refine x_iload_n dX9_street_15 rfl ?_
    refine x_tabIn (off := 44) (tgt := 60) dX9_street_16 (by decide) (by decide) (by decide) (by decide) ?_
    refine x_aload_n dX9_street_60 rfl ?_
    refine s_getr (ci := 9) (k := 2) (N := 20) (C := RX9) (T := TX9) dX9_street_61 lfX9_13 inX9 rfl (by decide) (rfl) rfl ?_
    refine x_iconst (v := 3) dX9_street_64 (by decide) ?_
    refine x_iload_n dX9_street_65 rfl ?_
    refine x_iadd dX9_street_66 ?_
    refine s_iald dX9_street_67 (rfl) (hi := nI_add 3 k) (hj := by omega) (hn := by decide) ?_
    exact s_iret dX9_street_68 rfl (⟨congrArg (fun z => some (Value.int z)) (tr_i (f := fun i => σ 83 (3 + i)) hk).symm, fM_90 _ _⟩)
  · skip
    refine x_aload_n dX9_street_0 rfl ?_
    refine x_iload_n dX9_street_1 rfl ?_
    refine s_callV dX9_street_2 (k_isStreet σ hn hn8 _) rfl w_X9_isStreet lmX9_129 im_X9_isStreet se_X9_isStreet rfl (rfl) rfl (Nat.le_of_ble_eq_true rfl) rfl (by decide) (fun v_2 σ_2 h_2 => ?_)
    obtain ⟨rfl, z_2⟩ := h_2
    have z_2 := z_2.symm
    subst z_2
    refine x_if_ne (tgt := 11) dX9_street_5 (by decide) (fun c_5 => ?_) (fun c_5 => (absurd c_5 (by rw [inb_nI hk (by omega)]; decide)))
    refine x_aload_n dX9_street_11 rfl ?_
    refine s_callV dX9_street_12 (k_counts σ hn hn8 (by decide) (by decide) (Or.inl rfl) hb.1 hb.2.1 hb.2.2) rfl w_X9_counts lmX9_126 im_X9_counts se_X9_counts rfl (rfl) rfl (Nat.le_of_ble_eq_true rfl) rfl (by decide) (fun v_12 σ_12 h_12 => ?_)
    obtain ⟨rfl, V, hV, rfl⟩ := h_12
    refine x_iload_n dX9_street_15 rfl ?_
    refine x_tabIn (off := 53) (tgt := 69) dX9_street_16 (by decide) (by decide) (by decide) (by decide) ?_
    refine x_aload_n dX9_street_69 rfl ?_
    refine s_getr (ci := 9) (k := 2) (N := 20) (C := RX9) (T := TX9) dX9_street_70 lfX9_13 inX9 rfl (by decide) (rfl) rfl ?_
    refine x_bipush (v := 11) dX9_street_73 (by decide) ?_
    refine x_iload_n dX9_street_75 rfl ?_
    refine x_iadd dX9_street_76 ?_
    refine s_iald dX9_street_77 (rfl) (hi := nI_add 11 k) (hj := by omega) (hn := by decide) ?_
    exact s_iret dX9_street_78 rfl (⟨congrArg (fun z => some (Value.int z)) (tr_i (f := fun i => σ 83 (11 + i)) hk).symm, fM_90 _ _⟩)
  · skip
    refine x_aload_n dX9_street_0 rfl ?_
    refine x_iload_n dX9_street_1 rfl ?_
    refine s_callV dX9_street_2 (k_isStreet σ hn hn8 _) rfl w_X9_isStreet lmX9_129 im_X9_isStreet se_X9_isStreet rfl (rfl) rfl (Nat.le_of_ble_eq_true rfl) rfl (by decide) (fun v_2 σ_2 h_2 => ?_)
    obtain ⟨rfl, z_2⟩ := h_2
    have z_2 := z_2.symm
    subst z_2
    refine x_if_ne (tgt := 11) dX9_street_5 (by decide) (fun c_5 => ?_) (fun c_5 => (absurd c_5 (by rw [inb_nI hk (by omega)]; decide)))
    refine x_aload_n dX9_street_11 rfl ?_
    refine s_callV dX9_street_12 (k_counts σ hn hn8 (by decide) (by decide) (Or.inl rfl) hb.1 hb.2.1 hb.2.2) rfl w_X9_counts lmX9_126 im_X9_counts se_X9_counts rfl (rfl) rfl (Nat.le_of_ble_eq_true rfl) rfl (by decide) (fun v_12 σ_12 h_12 => ?_)
    obtain ⟨rfl, V, hV, rfl⟩ := h_12
    refine x_iload_n dX9_street_15 rfl ?_
    refine x_tabIn (off := 63) (tgt := 79) dX9_street_16 (by decide) (by decide) (by decide) (by decide) ?_
    refine x_aload_n dX9_street_79 rfl ?_
    refine s_getr (ci := 9) (k := 4) (N := 20) (C := RX9) (T := TX9) dX9_street_80 lfX9_19 inX9 rfl (by decide) (rfl) rfl ?_
    refine x_bipush (v := 8) dX9_street_83 (by decide) ?_
    refine x_iload_n dX9_street_85 rfl ?_
    refine x_iadd dX9_street_86 ?_
    refine s_iald dX9_street_87 (rfl) (hi := nI_add 8 k) (hj := by omega) (hn := by decide) ?_
    exact s_iret dX9_street_88 rfl (⟨congrArg (fun z => some (Value.int z)) (tr_i (f := fun i => σ 85 (8 + i)) hk).symm, fM_90 _ _⟩)
  · skip
    refine x_aload_n dX9_street_0 rfl ?_
    refine x_iload_n dX9_street_1 rfl ?_
    refine s_callV dX9_street_2 (k_isStreet σ hn hn8 _) rfl w_X9_isStreet lmX9_129 im_X9_isStreet se_X9_isStreet rfl (rfl) rfl (Nat.le_of_ble_eq_true rfl) rfl (by decide) (fun v_2 σ_2 h_2 => ?_)
    obtain ⟨rfl, z_2⟩ := h_2
    have z_2 := z_2.symm
    subst z_2
    refine x_if_ne (tgt := 11) dX9_street_5 (by decide) (fun c_5 => ?_) (fun c_5 => (absurd c_5 (by rw [inb_nI hk (by omega)]; decide)))
    refine x_aload_n dX9_street_11 rfl ?_
    refine s_callV dX9_street_12 (k_counts σ hn hn8 (by decide) (by decide) (Or.inl rfl) hb.1 hb.2.1 hb.2.2) rfl w_X9_counts lmX9_126 im_X9_counts se_X9_counts rfl (rfl) rfl (Nat.le_of_ble_eq_true rfl) rfl (by decide) (fun v_12 σ_12 h_12 => ?_)
    obtain ⟨rfl, V, hV, rfl⟩ := h_12
    refine x_iload_n dX9_street_15 rfl ?_
    refine x_tabIn (off := 73) (tgt := 89) dX9_street_16 (by decide) (by decide) (by decide) (by decide) ?_
    refine x_aload_n dX9_street_89 rfl ?_
    refine s_getr (ci := 9) (k := 4) (N := 20) (C := RX9) (T := TX9) dX9_street_90 lfX9_19 inX9 rfl (by decide) (rfl) rfl ?_
    refine x_iload_n dX9_street_93 rfl ?_
    refine s_iald dX9_street_94 (rfl) (hi := rfl) (hj := by omega) (hn := by decide) ?_
    exact s_iret dX9_street_95 rfl (⟨congrArg (fun z => some (Value.int z)) (tr_i (f := σ 85) hk).symm, fM_90 _ _⟩)
  · skip
    refine x_aload_n dX9_street_0 rfl ?_
    refine x_iload_n dX9_street_1 rfl ?_
    refine s_callV dX9_street_2 (k_isStreet σ hn hn8 _) rfl w_X9_isStreet lmX9_129 im_X9_isStreet se_X9_isStreet rfl (rfl) rfl (Nat.le_of_ble_eq_true rfl) rfl (by decide) (fun v_2 σ_2 h_2 => ?_)
    obtain ⟨rfl, z_2⟩ := h_2
    have z_2 := z_2.symm
    subst z_2
    refine x_if_ne (tgt := 11) dX9_street_5 (by decide) (fun c_5 => ?_) (fun c_5 => (absurd c_5 (by rw [inb_nI hk (by omega)]; decide)))
    refine x_aload_n dX9_street_11 rfl ?_
    refine s_callV dX9_street_12 (k_counts σ hn hn8 (by decide) (by decide) (Or.inl rfl) hb.1 hb.2.1 hb.2.2) rfl w_X9_counts lmX9_126 im_X9_counts se_X9_counts rfl (rfl) rfl (Nat.le_of_ble_eq_true rfl) rfl (by decide) (fun v_12 σ_12 h_12 => ?_)
    obtain ⟨rfl, V, hV, rfl⟩ := h_12
    refine x_iload_n dX9_street_15 rfl ?_
    refine x_tabIn (off := 80) (tgt := 96) dX9_street_16 (by decide) (by decide) (by decide) (by decide) ?_
    refine x_aload_n dX9_street_96 rfl ?_
    refine s_getr (ci := 9) (k := 2) (N := 20) (C := RX9) (T := TX9) dX9_street_97 lfX9_13 inX9 rfl (by decide) (rfl) rfl ?_
    refine x_bipush (v := 35) dX9_street_100 (by decide) ?_
    refine x_iload_n dX9_street_102 rfl ?_
    refine x_iadd dX9_street_103 ?_
    refine s_iald dX9_street_104 (rfl) (hi := nI_add 35 k) (hj := by omega) (hn := by decide) ?_
    exact s_iret dX9_street_105 rfl (⟨congrArg (fun z => some (Value.int z)) (tr_i (f := fun i => σ 83 (35 + i)) hk).symm, fM_90 _ _⟩)
  · skip
    refine x_aload_n dX9_street_0 rfl ?_
    refine x_iload_n dX9_street_1 rfl ?_
    refine s_callV dX9_street_2 (k_isStreet σ hn hn8 _) rfl w_X9_isStreet lmX9_129 im_X9_isStreet se_X9_isStreet rfl (rfl) rfl (Nat.le_of_ble_eq_true rfl) rfl (by decide) (fun v_2 σ_2 h_2 => ?_)
    obtain ⟨rfl, z_2⟩ := h_2
    have z_2 := z_2.symm
    subst z_2
    refine x_if_ne (tgt := 11) dX9_street_5 (by decide) (fun c_5 => ?_) (fun c_5 => (absurd c_5 (by rw [inb_nI hk (by omega)]; decide)))
    refine x_aload_n dX9_street_11 rfl ?_
    refine s_callV dX9_street_12 (k_counts σ hn hn8 (by decide) (by decide) (Or.inl rfl) hb.1 hb.2.1 hb.2.2) rfl w_X9_counts lmX9_126 im_X9_counts se_X9_counts rfl (rfl) rfl (Nat.le_of_ble_eq_true rfl) rfl (by decide) (fun v_12 σ_12 h_12 => ?_)
    obtain ⟨rfl, V, hV, rfl⟩ := h_12
    refine x_iload_n dX9_street_15 rfl ?_
    refine x_tabIn (off := 90) (tgt := 106) dX9_street_16 (by decide) (by decide) (by decide) (by decide) ?_
    refine x_aload_n dX9_street_106 rfl ?_
    refine x_iload_n dX9_street_107 rfl ?_
    refine s_callV dX9_street_108 (k_mchoice (sw σ 90 V) (n := n) hn hn8 hk) rfl w_X9_choice lmX9_120 im_X9_choice se_X9_choice rfl (rfl) rfl (Nat.le_of_ble_eq_true rfl) rfl (by decide) (fun v_108 σ_108 h_108 => ?_)
    obtain ⟨rfl, z_108⟩ := h_108
    have z_108 := z_108.symm
    subst z_108
    exact s_iret dX9_street_111 rfl (⟨rfl, fM_90 _ _⟩)
  · skip
    refine x_aload_n dX9_street_0 rfl ?_
    refine x_iload_n dX9_street_1 rfl ?_
    refine s_callV dX9_street_2 (k_isStreet σ hn hn8 _) rfl w_X9_isStreet lmX9_129 im_X9_isStreet se_X9_isStreet rfl (rfl) rfl (Nat.le_of_ble_eq_true rfl) rfl (by decide) (fun v_2 σ_2 h_2 => ?_)
    obtain ⟨rfl, z_2⟩ := h_2
    have z_2 := z_2.symm
    subst z_2
    refine x_if_ne (tgt := 11) dX9_street_5 (by decide) (fun c_5 => ?_) (fun c_5 => (absurd c_5 (by rw [inb_nI hk (by omega)]; decide)))
    refine x_aload_n dX9_street_11 rfl ?_
    refine s_callV dX9_street_12 (k_counts σ hn hn8 (by decide) (by decide) (Or.inl rfl) hb.1 hb.2.1 hb.2.2) rfl w_X9_counts lmX9_126 im_X9_counts se_X9_counts rfl (rfl) rfl (Nat.le_of_ble_eq_true rfl) rfl (by decide) (fun v_12 σ_12 h_12 => ?_)
    obtain ⟨rfl, V, hV, rfl⟩ := h_12
    refine x_iload_n dX9_street_15 rfl ?_
    refine x_tabIn (off := 96) (tgt := 112) dX9_street_16 (by decide) (by decide) (by decide) (by decide) ?_
    refine x_aload_n dX9_street_112 rfl ?_
    refine s_getr (ci := 9) (k := 15) (N := 20) (C := RX9) (T := TX9) dX9_street_113 lfX9_35 inX9 rfl (by decide) (rfl) rfl ?_
    refine x_iload_n dX9_street_116 rfl ?_
    refine s_iald dX9_street_117 (rfl) (hi := rfl) (hj := by omega) (hn := by decide) ?_
    exact s_iret dX9_street_118 rfl (⟨by rw [sw_s, hV k hk]; rfl, fM_90 _ _⟩)
set_option maxRecDepth 100000 in
theorem k_mas (σ : Sg) {n k kd : Nat} (hn : σ 83 0 = nI n) (hn8 : n ≤ 8) (hk : k < n) (hkd : (plM n σ 83).2.2.2.1 k = nI kd) (hk4 : kd < 4) {t : Nat} (ht : t < 5) : Cm 12 YX9_as [.ref 81, .int (nI k), .int (nI t)] σ (fun v σ' => v = some (.int (if unF kd t = true then wantF (plM n σ 83).2.2.2.1 (plM n σ 83).2.2.2.2.1 k else -4)) ∧ σ' = σ) := by
  refine Cm_of (by decide +kernel) (Nat.le_of_ble_eq_true rfl) ?_
  have e : σ 83 (3 + k) = nI kd := by rw [← hkd]; exact (tr_i (f := fun i => σ 83 (3 + i)) hk).symm
  have tail : ∀ x : Int32, x = bI (unF kd t) → ∀ V4, Ex (YX9_as, 12, xB0, none) 58 [.ref 81, .int (nI k), .int (nI t), .int (nI kd), V4] [.int x] (xMs σ) (xQ (fun v σ' => v = some (.int (if unF kd t = true then wantF (plM n σ 83).2.2.2.1 (plM n σ 83).2.2.2.2.1 k else -4)) ∧ σ' = σ)) := by
    intro x hx V4
    subst hx
    refine x_istore dX9_as_58 (Nat.le_of_ble_eq_true rfl) rfl ?_
    refine x_iload dX9_as_60 rfl ?_
    refine x_if_eq (tgt := 73) dX9_as_62 (by decide) (fun c_62 => ?_) (fun c_62 => ?_)
    · refine x_bipush (v := -4) dX9_as_73 (by decide) ?_
      exact s_iret dX9_as_75 rfl (by first
        | exact ⟨by rw [if_neg (fun h => by rw [h] at c_62; exact absurd c_62 (by decide))], rfl⟩
        | exact ⟨by rw [if_pos (bI_n c_62)], rfl⟩)
    · refine x_aload_n dX9_as_65 rfl ?_
      refine x_iload_n dX9_as_66 rfl ?_
      refine s_callV dX9_as_67 (k_mwants σ hn8 hk) rfl w_X9_wants lmX9_114 im_X9_wants se_X9_wants rfl (rfl) rfl (Nat.le_of_ble_eq_true rfl) rfl (by decide) (fun v_67 σ_67 h_67 => ?_)
      obtain ⟨rfl, z_67⟩ := h_67
      have z_67 := z_67.symm
      subst z_67
      refine x_goto (tgt := 75) dX9_as_70 (by decide) ?_
      exact s_iret dX9_as_75 rfl (by first
        | exact ⟨by rw [if_neg (fun h => by rw [h] at c_62; exact absurd c_62 (by decide))], rfl⟩
        | exact ⟨by rw [if_pos (bI_n c_62)], rfl⟩)
  have hk4' : kd = 0 ∨ kd = 1 ∨ kd = 2 ∨ kd = 3 := by omega
  have ht' : t = 0 ∨ t = 1 ∨ t = 2 ∨ t = 3 ∨ t = 4 := by omega
  refine x_aload_n dX9_as_0 rfl ?_
  refine x_iload_n dX9_as_1 rfl ?_
  refine s_callV dX9_as_2 (k_isStreet σ hn hn8 _) rfl w_X9_isStreet lmX9_129 im_X9_isStreet se_X9_isStreet rfl (rfl) rfl (Nat.le_of_ble_eq_true rfl) rfl (by decide) (fun v_2 σ_2 h_2 => ?_)
  obtain ⟨rfl, z_2⟩ := h_2
  have z_2 := z_2.symm
  subst z_2
  refine x_if_ne (tgt := 11) dX9_as_5 (by decide) (fun c_5 => ?_) (fun c_5 => (absurd c_5 (by rw [inb_nI hk (by omega)]; decide)))
  refine x_iload_n dX9_as_11 rfl ?_
  refine x_iconst (v := 0) dX9_as_12 (by decide) ?_
  refine x_iconst (v := 4) dX9_as_13 (by decide) ?_
  refine s_callS dX9_as_14 (k_in σ _ _ _) rfl w_X9_in lmX9_51 st_X9_in rfl (Nat.le_of_ble_eq_true rfl) rfl (by decide) (fun v_14 σ_14 h_14 => ?_)
  obtain ⟨rfl, z_14⟩ := h_14
  have z_14 := z_14.symm
  subst z_14
  refine x_if_ne (tgt := 23) dX9_as_17 (by decide) (fun c_17 => ?_) (fun c_17 => (absurd c_17 (by rw [show rgF 0 4 (nI t) = true from rgF_i (a := 0) (b := 4) (by omega) (by omega) (by decide)]; decide)))
  refine x_aload_n dX9_as_23 rfl ?_
  refine s_getr (ci := 9) (k := 2) (N := 20) (C := RX9) (T := TX9) dX9_as_24 lfX9_13 inX9 rfl (by decide) (rfl) rfl ?_
  refine x_iconst (v := 3) dX9_as_27 (by decide) ?_
  refine x_iload_n dX9_as_28 rfl ?_
  refine x_iadd dX9_as_29 ?_
  refine s_iald dX9_as_30 (rfl) (hi := nI_add 3 k) (hj := by omega) (hn := by decide) ?_
  rw [e]
  refine x_istore_n dX9_as_31 (Nat.le_of_ble_eq_true rfl) rfl ?_
  refine x_iload_n dX9_as_32 rfl ?_
  refine x_if_eq (tgt := 53) dX9_as_33 (by decide) (fun c_33 => ?_) (fun c_33 => ?_)
  · refine x_iconst (v := 1) dX9_as_53 (by decide) ?_
    refine x_goto (tgt := 58) dX9_as_54 (by decide) ?_
    refine tail _ ?_ _
    rcases hk4' with rfl | rfl | rfl | rfl <;> rcases ht' with rfl | rfl | rfl | rfl | rfl <;> first
      | (exact absurd c_33 (by decide)) | (exact absurd (by decide) c_33) | (exact absurd c_40 (by decide)) | (exact absurd (by decide) c_40)
      | (exact absurd c_45 (by decide)) | (exact absurd (by decide) c_45) | (exact absurd c_50 (by decide)) | (exact absurd (by decide) c_50) | decide
  · refine x_iload_n dX9_as_36 rfl ?_
    refine x_iload_n dX9_as_37 rfl ?_
    refine x_iconst (v := 1) dX9_as_38 (by decide) ?_
    refine x_iadd dX9_as_39 ?_
    refine x_icmp_eq (tgt := 53) dX9_as_40 (by decide) (fun c_40 => ?_) (fun c_40 => ?_)
    · refine x_iconst (v := 1) dX9_as_53 (by decide) ?_
      refine x_goto (tgt := 58) dX9_as_54 (by decide) ?_
      refine tail _ ?_ _
      rcases hk4' with rfl | rfl | rfl | rfl <;> rcases ht' with rfl | rfl | rfl | rfl | rfl <;> first
        | (exact absurd c_33 (by decide)) | (exact absurd (by decide) c_33) | (exact absurd c_40 (by decide)) | (exact absurd (by decide) c_40)
        | (exact absurd c_45 (by decide)) | (exact absurd (by decide) c_45) | (exact absurd c_50 (by decide)) | (exact absurd (by decide) c_50) | decide
    · refine x_iload_n dX9_as_43 rfl ?_
      refine x_iconst (v := 1) dX9_as_44 (by decide) ?_
      refine x_icmp_ne (tgt := 57) dX9_as_45 (by decide) (fun c_45 => ?_) (fun c_45 => ?_)
      · refine x_iconst (v := 0) dX9_as_57 (by decide) ?_
        refine tail _ ?_ _
        rcases hk4' with rfl | rfl | rfl | rfl <;> rcases ht' with rfl | rfl | rfl | rfl | rfl <;> first
          | (exact absurd c_33 (by decide)) | (exact absurd (by decide) c_33) | (exact absurd c_40 (by decide)) | (exact absurd (by decide) c_40)
          | (exact absurd c_45 (by decide)) | (exact absurd (by decide) c_45) | (exact absurd c_50 (by decide)) | (exact absurd (by decide) c_50) | decide
      · refine x_iload_n dX9_as_48 rfl ?_
        refine x_iconst (v := 3) dX9_as_49 (by decide) ?_
        refine x_icmp_ge (tgt := 57) dX9_as_50 (by decide) (fun c_50 => ?_) (fun c_50 => ?_)
        · refine x_iconst (v := 0) dX9_as_57 (by decide) ?_
          refine tail _ ?_ _
          rcases hk4' with rfl | rfl | rfl | rfl <;> rcases ht' with rfl | rfl | rfl | rfl | rfl <;> first
            | (exact absurd c_33 (by decide)) | (exact absurd (by decide) c_33) | (exact absurd c_40 (by decide)) | (exact absurd (by decide) c_40)
            | (exact absurd c_45 (by decide)) | (exact absurd (by decide) c_45) | (exact absurd c_50 (by decide)) | (exact absurd (by decide) c_50) | decide
        · refine x_iconst (v := 1) dX9_as_53 (by decide) ?_
          refine x_goto (tgt := 58) dX9_as_54 (by decide) ?_
          refine tail _ ?_ _
          rcases hk4' with rfl | rfl | rfl | rfl <;> rcases ht' with rfl | rfl | rfl | rfl | rfl <;> first
            | (exact absurd c_33 (by decide)) | (exact absurd (by decide) c_33) | (exact absurd c_40 (by decide)) | (exact absurd (by decide) c_40)
            | (exact absurd c_45 (by decide)) | (exact absurd (by decide) c_45) | (exact absurd c_50 (by decide)) | (exact absurd (by decide) c_50) | decide
/-- behind something that can be undone -/
def paM (q : Nat) (σ σ' : Sg) : Prop := ∃ σk, kpP q σ σk ∧ σ' 81 = σk 81 ∧ σ' 86 = σk 86 ∧ ∀ c, c ≠ 81 → c ≠ 85 → c ≠ 86 → c ≠ 90 → σ' c = σ c
set_option maxRecDepth 100000 in
theorem k_mday_f (σ : Sg) (h : σ 85 16 = 999) : Cm 12 YX9_day [.ref 81] σ (fun v σ' => v = some (.int (-5)) ∧ σ' = σ) := by
  refine Cm_of (by decide +kernel) (Nat.le_of_ble_eq_true rfl) ?_
  refine x_aload_n dX9_day_0 rfl ?_
  refine s_getr (ci := 9) (k := 4) (N := 20) (C := RX9) (T := TX9) dX9_day_1 lfX9_19 inX9 rfl (by decide) (rfl) rfl ?_
  refine x_bipush (v := 16) dX9_day_4 (by decide) ?_
  refine s_iald dX9_day_6 (rfl) (j := 16) (hi := by decide) (hj := by omega) (hn := by decide) ?_
  refine x_sipush (v := 999) dX9_day_7 (by decide) ?_
  refine x_icmp_ne (tgt := 16) dX9_day_10 (by decide) (fun c_10 => (absurd h c_10)) (fun c_10 => ?_)
  refine x_bipush (v := -5) dX9_day_13 (by decide) ?_
  exact s_iret dX9_day_15 rfl (⟨rfl, rfl⟩)
set_option maxRecDepth 100000 in
theorem k_mday (σ : Sg) {n q : Nat} (hn : σ 83 0 = nI n) (hp : Wp (plM n σ 83)) (ho : Wm n (moS n σ)) (hb : NB σ) (h6 : σ 81 6 = nI q) (hq : q ≤ 8) (h : ¬ σ 85 16 = 999) : Cm 12 YX9_day [.ref 81] σ (fun v σ' => v = some (.int (caF (plM n σ 83) (moS n σ) 0 0 (-1))) ∧ moS n σ' = daF (plM n σ 83) (moS n σ) ∧ paM q σ σ') := by
  refine Cm_of (by decide +kernel) (Nat.le_of_ble_eq_true rfl) ?_
  have hn8 : n ≤ 8 := hp.1
  refine x_aload_n dX9_day_0 rfl ?_
  refine s_getr (ci := 9) (k := 4) (N := 20) (C := RX9) (T := TX9) dX9_day_1 lfX9_19 inX9 rfl (by decide) (rfl) rfl ?_
  refine x_bipush (v := 16) dX9_day_4 (by decide) ?_
  refine s_iald dX9_day_6 (rfl) (j := 16) (hi := by decide) (hj := by omega) (hn := by decide) ?_
  refine x_sipush (v := 999) dX9_day_7 (by decide) ?_
  refine x_icmp_ne (tgt := 16) dX9_day_10 (by decide) (fun c_10 => ?_) (fun c_10 => (absurd c_10 h))
  refine x_aload_n dX9_day_16 rfl ?_
  refine s_callV dX9_day_17 (k_keeps σ h6 hq) rfl w_X9_keeps lmX9_135 im_X9_keeps se_X9_keeps rfl (rfl) rfl (Nat.le_of_ble_eq_true rfl) rfl (by decide) (fun v_17 σ_17 h_17 => ?_)
  obtain ⟨rfl, kp⟩ := h_17
  have kf := kp.2.2.2
  have em : moS n σ_17 = moS n σ := by unfold moS; rw [kf 85 (by decide) (by decide)]
  have ep : plM n σ_17 83 = plM n σ 83 := plM_fr (kf 83 (by decide) (by decide))
  have hb1 : NB σ_17 := by unfold NB; rw [kp.2.2.1 16 (by decide), kp.2.2.1 17 (by decide), kp.2.2.1 18 (by decide)]; exact hb
  have hn1 : σ_17 83 0 = nI n := by rw [kf 83 (by decide) (by decide)]; exact hn
  refine x_aload_n dX9_day_20 rfl ?_
  refine x_aload_n dX9_day_21 rfl ?_
  refine s_callV dX9_day_22 (k_carried0 σ_17 hn1 hn8 hb1) rfl w_X9_carried lmX9_138 im_X9_carried se_X9_carried rfl (rfl) rfl (Nat.le_of_ble_eq_true rfl) rfl (by decide) (fun v_22 σ_22 h_22 => ?_)
  obtain ⟨rfl, cf⟩ := h_22
  have em2 : moS n σ_22 = moS n σ := by rw [← em]; unfold moS; rw [cf 85 (by decide)]
  have ep2 : plM n σ_22 83 = plM n σ 83 := by rw [plM_fr (cf 83 (by decide))]; exact ep
  refine s_callV dX9_day_25 (k_rains σ_22 (n := n) (by rw [cf 83 (by decide)]; exact hn1) (by rw [ep2]; exact hp) (by rw [em2]; exact ho.1) (s := caF (plM n σ_17 83) (moS n σ_17) 0 0 (-1)) ca_inq) rfl w_X9_rains lmX9_141 im_X9_rains se_X9_rains rfl (rfl) rfl (Nat.le_of_ble_eq_true rfl) rfl (by decide) (fun v_25 σ_25 h_25 => ?_)
  obtain ⟨rfl, rm, rf⟩ := h_25
  rw [em2, ep2, ep, em] at rm
  refine x_aload_n dX9_day_28 rfl ?_
  refine s_getr (ci := 9) (k := 4) (N := 20) (C := RX9) (T := TX9) dX9_day_29 lfX9_19 inX9 rfl (by decide) (rfl) rfl ?_
  refine x_bipush (v := 17) dX9_day_32 (by decide) ?_
  refine s_iald dX9_day_34 (rfl) (j := 17) (hi := by decide) (hj := by omega) (hn := by decide) ?_
  refine s_iret dX9_day_35 rfl ?_
  have er : σ_25 85 17 = caF (plM n σ 83) (moS n σ) 0 0 (-1) := congrArg (fun z : MO => z.2.2.1) rm
  rw [er]
  refine ⟨rfl, rm, σ_17, kp, ?_, ?_, fun c h1 h2 h3 h4 => ?_⟩
  · rw [rf 81 (by decide), cf 81 (by decide)]
  · rw [rf 86 (by decide), cf 86 (by decide)]
  · rw [rf c h2, cf c h4, kf c h1 h3]
theorem ho_eq (x : Int32) : (if x < 99 then x else 99) = if 99 < x then 99 else x := by
  by_cases h : x < 99
  · rw [if_pos h, if_neg (fun q => Int32.lt_irrefl (Int32.lt_trans h q))]
  · rw [if_neg h]
    by_cases h2 : 99 < x
    · rw [if_pos h2]
    · rw [if_neg h2]
      exact Int32.le_antisymm (Int32.not_lt.mp h) (Int32.not_lt.mp h2)
set_option maxRecDepth 100000 in
theorem k_mhose (σ : Sg) {n k q : Nat} (hn : σ 83 0 = nI n) (hn8 : n ≤ 8) (hk : k < n) (h6 : σ 81 6 = nI q) (hq : q ≤ 8) {w : Nat} (hw1 : 1 ≤ w) (hw2 : w ≤ 20) : Cm 12 YX9_hose [.ref 81, .int (nI k), .int (nI w)] σ (fun v σ' => v = some (.int (hoF ((moS n σ).1 k) (nI w))) ∧ moS n σ' = (upd (moS n σ).1 k (hoF ((moS n σ).1 k) (nI w)), (moS n σ).2) ∧ paM q σ σ') := by
  refine Cm_of (by decide +kernel) (Nat.le_of_ble_eq_true rfl) ?_
  have ew : (moS n σ).1 k = σ 85 k := tr_i hk
  have tail : ∀ (σ1 : Sg) (x : Int32), kpP q σ σ1 → x = hoF (σ 85 k) (nI w) → Ex (YX9_hose, 12, xB0, none) 59 [.ref 81, .int (nI k), .int (nI w)] [.int x, .int (nI k), .ref 85] (xMs σ1) (xQ (fun v σ' => v = some (.int (hoF ((moS n σ).1 k) (nI w))) ∧ moS n σ' = (upd (moS n σ).1 k (hoF ((moS n σ).1 k) (nI w)), (moS n σ).2) ∧ paM q σ σ')) := by
    intro σ1 x kp hx
    have kf := kp.2.2.2
    have e85 := kf 85 (by decide) (by decide)
    rw [ew, ← hx]
    refine s_iast dX9_hose_59 (rfl) (hi := rfl) (hj := by omega) (hn := by decide) ?_
    refine x_aload_n dX9_hose_60 rfl ?_
    refine s_getr (ci := 9) (k := 4) (N := 20) (C := RX9) (T := TX9) dX9_hose_61 lfX9_19 inX9 rfl (by decide) (rfl) rfl ?_
    refine x_iload_n dX9_hose_64 rfl ?_
    refine s_iald dX9_hose_65 (rfl) (hi := rfl) (hj := by omega) (hn := by decide) ?_
    refine s_iret dX9_hose_66 rfl ?_
    rw [sg_s]
    refine ⟨rfl, ?_, σ1, kp, sg_n _ _ _ (by decide), sg_n _ _ _ (by decide), fun c h1 h2 h3 h4 => by rw [sg_n _ _ _ h2]; exact kf c h1 h3⟩
    unfold moS
    rw [← tr_upd hk, ← e85, ← sg_row]
    refine congr (congrArg Prod.mk rfl) (congr (congrArg Prod.mk ?_) (congr (congrArg Prod.mk ?_) ?_))
    · exact tr_ext fun i hi => sg_k _ _ _ (by omega)
    · exact sg_k _ _ _ (by omega)
    · exact sg_k _ _ _ (by omega)
  refine x_aload_n dX9_hose_0 rfl ?_
  refine x_iload_n dX9_hose_1 rfl ?_
  refine s_callV dX9_hose_2 (k_isStreet σ hn hn8 _) rfl w_X9_isStreet lmX9_129 im_X9_isStreet se_X9_isStreet rfl (rfl) rfl (Nat.le_of_ble_eq_true rfl) rfl (by decide) (fun v_2 σ_2 h_2 => ?_)
  obtain ⟨rfl, z_2⟩ := h_2
  have z_2 := z_2.symm
  subst z_2
  refine x_if_ne (tgt := 11) dX9_hose_5 (by decide) (fun c_5 => ?_) (fun c_5 => (absurd c_5 (by rw [inb_nI hk (by omega)]; decide)))
  refine x_iload_n dX9_hose_11 rfl ?_
  refine x_iconst (v := 1) dX9_hose_12 (by decide) ?_
  refine x_bipush (v := 20) dX9_hose_13 (by decide) ?_
  refine s_callS dX9_hose_15 (k_in σ _ _ _) rfl w_X9_in lmX9_51 st_X9_in rfl (Nat.le_of_ble_eq_true rfl) rfl (by decide) (fun v_15 σ_15 h_15 => ?_)
  obtain ⟨rfl, z_15⟩ := h_15
  have z_15 := z_15.symm
  subst z_15
  refine x_if_ne (tgt := 24) dX9_hose_18 (by decide) (fun c_18 => ?_) (fun c_18 => (absurd c_18 (by rw [show rgF 1 20 (nI w) = true from rgF_i (a := 1) (b := 20) hw1 hw2 (by decide)]; decide)))
  refine x_aload_n dX9_hose_24 rfl ?_
  refine s_callV dX9_hose_25 (k_keeps σ h6 hq) rfl w_X9_keeps lmX9_135 im_X9_keeps se_X9_keeps rfl (rfl) rfl (Nat.le_of_ble_eq_true rfl) rfl (by decide) (fun v_25 σ_25 h_25 => ?_)
  obtain ⟨rfl, kp⟩ := h_25
  have e85 := kp.2.2.2 85 (by decide) (by decide)
  refine x_aload_n dX9_hose_28 rfl ?_
  refine s_getr (ci := 9) (k := 4) (N := 20) (C := RX9) (T := TX9) dX9_hose_29 lfX9_19 inX9 rfl (by decide) (rfl) rfl ?_
  refine x_iload_n dX9_hose_32 rfl ?_
  refine x_aload_n dX9_hose_33 rfl ?_
  refine s_getr (ci := 9) (k := 4) (N := 20) (C := RX9) (T := TX9) dX9_hose_34 lfX9_19 inX9 rfl (by decide) (rfl) rfl ?_
  refine x_iload_n dX9_hose_37 rfl ?_
  refine s_iald dX9_hose_38 (rfl) (hi := rfl) (hj := by omega) (hn := by decide) ?_
  refine x_iload_n dX9_hose_39 rfl ?_
  refine x_iadd dX9_hose_40 ?_
  refine x_bipush (v := 99) dX9_hose_41 (by decide) ?_
  refine x_icmp_le (tgt := 51) dX9_hose_43 (by decide) (fun c_43 => ?_) (fun c_43 => ?_)
  · refine x_aload_n dX9_hose_51 rfl ?_
    refine s_getr (ci := 9) (k := 4) (N := 20) (C := RX9) (T := TX9) dX9_hose_52 lfX9_19 inX9 rfl (by decide) (rfl) rfl ?_
    refine x_iload_n dX9_hose_55 rfl ?_
    refine s_iald dX9_hose_56 (rfl) (hi := rfl) (hj := by omega) (hn := by decide) ?_
    refine x_iload_n dX9_hose_57 rfl ?_
    refine x_iadd dX9_hose_58 ?_
    refine tail σ_25 _ kp ?_
    rw [e85] at c_43
    unfold hoF
    rw [ho_eq]
    first
      | (rw [if_neg (Int32.not_lt.mpr c_43), e85])
      | (rw [if_pos (Int32.not_le.mp c_43)])
  · refine x_bipush (v := 99) dX9_hose_46 (by decide) ?_
    refine x_goto (tgt := 59) dX9_hose_48 (by decide) ?_
    refine tail σ_25 _ kp ?_
    rw [e85] at c_43
    unfold hoF
    rw [ho_eq]
    first
      | (rw [if_neg (Int32.not_lt.mpr c_43), e85])
      | (rw [if_pos (Int32.not_le.mp c_43)])
set_option maxRecDepth 100000 in
theorem k_mpoll (σ : Sg) {n k q : Nat} (hn : σ 83 0 = nI n) (hn8 : n ≤ 8) (hk : k < n) (h6 : σ 81 6 = nI q) (hq : q ≤ 8) {w : Nat} (hw2 : w ≤ 20) : Cm 12 YX9_poll [.ref 81, .int (nI k), .int (nI w)] σ (fun v σ' => v = some (.int ((moS n σ).2.1 k)) ∧ moS n σ' = ((moS n σ).1, upd (moS n σ).2.1 k (nI w), (moS n σ).2.2) ∧ paM q σ σ') := by
  refine Cm_of (by decide +kernel) (Nat.le_of_ble_eq_true rfl) ?_
  have ew : (moS n σ).2.1 k = σ 85 (8 + k) := tr_i (f := fun i => σ 85 (8 + i)) hk
  refine x_aload_n dX9_poll_0 rfl ?_
  refine x_iload_n dX9_poll_1 rfl ?_
  refine s_callV dX9_poll_2 (k_isStreet σ hn hn8 _) rfl w_X9_isStreet lmX9_129 im_X9_isStreet se_X9_isStreet rfl (rfl) rfl (Nat.le_of_ble_eq_true rfl) rfl (by decide) (fun v_2 σ_2 h_2 => ?_)
  obtain ⟨rfl, z_2⟩ := h_2
  have z_2 := z_2.symm
  subst z_2
  refine x_if_ne (tgt := 11) dX9_poll_5 (by decide) (fun c_5 => ?_) (fun c_5 => (absurd c_5 (by rw [inb_nI hk (by omega)]; decide)))
  refine x_iload_n dX9_poll_11 rfl ?_
  refine x_iconst (v := 0) dX9_poll_12 (by decide) ?_
  refine x_bipush (v := 20) dX9_poll_13 (by decide) ?_
  refine s_callS dX9_poll_15 (k_in σ _ _ _) rfl w_X9_in lmX9_51 st_X9_in rfl (Nat.le_of_ble_eq_true rfl) rfl (by decide) (fun v_15 σ_15 h_15 => ?_)
  obtain ⟨rfl, z_15⟩ := h_15
  have z_15 := z_15.symm
  subst z_15
  refine x_if_ne (tgt := 24) dX9_poll_18 (by decide) (fun c_18 => ?_) (fun c_18 => (absurd c_18 (by rw [show rgF 0 20 (nI w) = true from rgF_i (a := 0) (b := 20) (by omega) hw2 (by decide)]; decide)))
  refine x_aload_n dX9_poll_24 rfl ?_
  refine s_callV dX9_poll_25 (k_keeps σ h6 hq) rfl w_X9_keeps lmX9_135 im_X9_keeps se_X9_keeps rfl (rfl) rfl (Nat.le_of_ble_eq_true rfl) rfl (by decide) (fun v_25 σ_25 h_25 => ?_)
  obtain ⟨rfl, kp⟩ := h_25
  have e85 := kp.2.2.2 85 (by decide) (by decide)
  refine x_aload_n dX9_poll_28 rfl ?_
  refine s_getr (ci := 9) (k := 4) (N := 20) (C := RX9) (T := TX9) dX9_poll_29 lfX9_19 inX9 rfl (by decide) (rfl) rfl ?_
  refine x_bipush (v := 8) dX9_poll_32 (by decide) ?_
  refine x_iload_n dX9_poll_34 rfl ?_
  refine x_iadd dX9_poll_35 ?_
  refine s_iald dX9_poll_36 (rfl) (hi := nI_add 8 k) (hj := by omega) (hn := by decide) ?_
  refine x_istore_n dX9_poll_37 (Nat.le_of_ble_eq_true rfl) rfl ?_
  refine x_aload_n dX9_poll_38 rfl ?_
  refine s_getr (ci := 9) (k := 4) (N := 20) (C := RX9) (T := TX9) dX9_poll_39 lfX9_19 inX9 rfl (by decide) (rfl) rfl ?_
  refine x_bipush (v := 8) dX9_poll_42 (by decide) ?_
  refine x_iload_n dX9_poll_44 rfl ?_
  refine x_iadd dX9_poll_45 ?_
  refine x_iload_n dX9_poll_46 rfl ?_
  refine s_iast dX9_poll_47 (rfl) (hi := nI_add 8 k) (hj := by omega) (hn := by decide) ?_
  refine x_iload_n dX9_poll_48 rfl ?_
  refine s_iret dX9_poll_49 rfl ?_
  rw [ew, e85]
  refine ⟨rfl, ?_, σ_25, kp, sg_n _ _ _ (by decide), sg_n _ _ _ (by decide), fun c h1 h2 h3 h4 => by rw [sg_n _ _ _ h2]; exact kp.2.2.2 c h1 h3⟩
  unfold moS
  rw [← e85, ← tr_upd hk]
  refine congr (congrArg Prod.mk ?_) (congr (congrArg Prod.mk ?_) (congr (congrArg Prod.mk ?_) ?_))
  · exact tr_ext fun i hi => sg_k _ _ _ (by omega)
  · refine tr_ext fun i hi => ?_
    rw [sg_row]
    unfold upd
    by_cases e : i = k
    · rw [if_pos (by omega), if_pos e]
    · rw [if_neg (by omega), if_neg e]
  · exact sg_k _ _ _ (by omega)
  · exact sg_k _ _ _ (by omega)

set_option maxRecDepth 100000 in
theorem l_mcount (σ : Sg) {n : Nat} {w : Int32} {R : Option Value → xM → Prop} (hn : σ 83 0 = nI n) (hn8 : n ≤ 8) (hk : Ex (YX9_count, 12, xB0, none) 29 [.ref 81, .int w, .int (smF (moS n σ).1 n), .int (nI n)] [] (xMs σ) R) : ∀ (j k : Nat), k + j = n → Ex (YX9_count, 12, xB0, none) 4 [.ref 81, .int w, .int (smF (moS n σ).1 k), .int (nI k)] [] (xMs σ) R := by
  intro j
  induction j with
  | zero =>
    intro k hk0
    have hk1 : k = n := by omega
    subst hk1
    refine x_iload_n dX9_count_4 rfl ?_
    refine x_aload_n dX9_count_5 rfl ?_
    refine s_getr (ci := 9) (k := 2) (N := 20) (C := RX9) (T := TX9) dX9_count_6 lfX9_13 inX9 rfl (by decide) (rfl) rfl ?_
    refine x_iconst (v := 0) dX9_count_9 (by decide) ?_
    refine s_iald dX9_count_10 (rfl) (j := 0) (hi := by decide) (hj := by omega) (hn := by decide) ?_
    refine x_icmp_ge (tgt := 29) dX9_count_11 (by decide) (fun c_11 => ?_) (fun c_11 => (absurd (by rw [hn]; exact Int32.le_refl _) c_11))
    exact hk
  | succ j ih =>
    intro k hk0
    have hkn : k < n := by omega
    have e3 : (moS n σ).1 k = σ 85 k := tr_i hkn
    refine x_iload_n dX9_count_4 rfl ?_
    refine x_aload_n dX9_count_5 rfl ?_
    refine s_getr (ci := 9) (k := 2) (N := 20) (C := RX9) (T := TX9) dX9_count_6 lfX9_13 inX9 rfl (by decide) (rfl) rfl ?_
    refine x_iconst (v := 0) dX9_count_9 (by decide) ?_
    refine s_iald dX9_count_10 (rfl) (j := 0) (hi := by decide) (hj := by omega) (hn := by decide) ?_
    refine x_icmp_ge (tgt := 29) dX9_count_11 (by decide) (fun c_11 => (absurd c_11 (by rw [hn]; exact nI_ge hkn (by omega)))) (fun c_11 => ?_)
    refine x_iload_n dX9_count_14 rfl ?_
    refine x_aload_n dX9_count_15 rfl ?_
    refine s_getr (ci := 9) (k := 4) (N := 20) (C := RX9) (T := TX9) dX9_count_16 lfX9_19 inX9 rfl (by decide) (rfl) rfl ?_
    refine x_iload_n dX9_count_19 rfl ?_
    refine s_iald dX9_count_20 (rfl) (hi := rfl) (hj := by omega) (hn := by decide) ?_
    rw [← e3]
    refine x_iadd dX9_count_21 ?_
    refine x_istore_n dX9_count_22 (Nat.le_of_ble_eq_true rfl) rfl ?_
    refine s_iinc dX9_count_23 rfl (Nat.le_of_ble_eq_true rfl) rfl ?_
    refine x_goto (tgt := 4) dX9_count_26 (by decide) ?_
    exact ih (k + 1) (by omega)
set_option maxRecDepth 100000 in
theorem k_mcount_o (σ : Sg) {n : Nat} (hn : σ 83 0 = nI n) (hn8 : n ≤ 8) (w : Int32) (h : rgF 0 9 w = false) : Cm 12 YX9_count [.ref 81, .int w] σ (fun v σ' => v = some (.int (-3)) ∧ σ' = σ) := by
  refine Cm_of (by decide +kernel) (Nat.le_of_ble_eq_true rfl) ?_
  refine x_iconst (v := 0) dX9_count_0 (by decide) ?_
  refine x_istore_n dX9_count_1 (Nat.le_of_ble_eq_true rfl) rfl ?_
  refine x_iconst (v := 0) dX9_count_2 (by decide) ?_
  refine x_istore_n dX9_count_3 (Nat.le_of_ble_eq_true rfl) rfl ?_
  refine l_mcount σ hn hn8 ?_ n 0 (by omega)
  refine x_iload_n dX9_count_29 rfl ?_
  refine x_tabOut (tgt := 143) dX9_count_30 (rgF_sw (b := 9) (by decide) h) (by decide) ?_
  refine x_bipush (v := -3) dX9_count_143 (by decide) ?_
  exact s_iret dX9_count_145 rfl (⟨rfl, rfl⟩)
set_option maxRecDepth 100000 in
theorem k_mcount (σ : Sg) {n q u len w : Nat} (hn : σ 83 0 = nI n) (hn8 : n ≤ 8) (hq : σ 81 10 = nI q) (hu : σ 81 6 = nI u) (hl : σ 81 1 = nI len) (hw : w < 10) : Cm 12 YX9_count [.ref 81, .int (nI w)] σ (fun v σ' => v = some (.int (coV (plM n σ 83) (moS n σ) q u len w)) ∧ σ' = σ) := by
  refine Cm_of (by decide +kernel) (Nat.le_of_ble_eq_true rfl) ?_
  have tail : Ex (YX9_count, 12, xB0, none) 29 [.ref 81, .int (nI w), .int (smF (moS n σ).1 n), .int (nI n)] [] (xMs σ) (xQ (fun v σ' => v = some (.int (coV (plM n σ 83) (moS n σ) q u len w)) ∧ σ' = σ)) := by
    have hw10 : w = 0 ∨ w = 1 ∨ w = 2 ∨ w = 3 ∨ w = 4 ∨ w = 5 ∨ w = 6 ∨ w = 7 ∨ w = 8 ∨ w = 9 := by omega
    rcases hw10 with rfl | rfl | rfl | rfl | rfl | rfl | rfl | rfl | rfl | rfl
    · skip
      refine x_iload_n dX9_count_29 rfl ?_
      refine x_tabIn (off := 54) (tgt := 84) dX9_count_30 (by decide) (by decide) (by decide) (by decide) ?_
      refine x_aload_n dX9_count_84 rfl ?_
      refine s_getr (ci := 9) (k := 2) (N := 20) (C := RX9) (T := TX9) dX9_count_85 lfX9_13 inX9 rfl (by decide) (rfl) rfl ?_
      refine x_iconst (v := 0) dX9_count_88 (by decide) ?_
      refine s_iald dX9_count_89 (rfl) (j := 0) (hi := by decide) (hj := by omega) (hn := by decide) ?_
      exact s_iret dX9_count_90 rfl (⟨by rw [hn]; rfl, rfl⟩)
    · skip
      refine x_iload_n dX9_count_29 rfl ?_
      refine x_tabIn (off := 61) (tgt := 91) dX9_count_30 (by decide) (by decide) (by decide) (by decide) ?_
      refine x_aload_n dX9_count_91 rfl ?_
      refine s_getr (ci := 9) (k := 4) (N := 20) (C := RX9) (T := TX9) dX9_count_92 lfX9_19 inX9 rfl (by decide) (rfl) rfl ?_
      refine x_bipush (v := 16) dX9_count_95 (by decide) ?_
      refine s_iald dX9_count_97 (rfl) (j := 16) (hi := by decide) (hj := by omega) (hn := by decide) ?_
      exact s_iret dX9_count_98 rfl (⟨rfl, rfl⟩)
    · skip
      refine x_iload_n dX9_count_29 rfl ?_
      refine x_tabIn (off := 69) (tgt := 99) dX9_count_30 (by decide) (by decide) (by decide) (by decide) ?_
      refine x_aload_n dX9_count_99 rfl ?_
      refine s_getr (ci := 9) (k := 2) (N := 20) (C := RX9) (T := TX9) dX9_count_100 lfX9_13 inX9 rfl (by decide) (rfl) rfl ?_
      refine x_iconst (v := 1) dX9_count_103 (by decide) ?_
      refine s_iald dX9_count_104 (rfl) (j := 1) (hi := by decide) (hj := by omega) (hn := by decide) ?_
      exact s_iret dX9_count_105 rfl (⟨rfl, rfl⟩)
    · skip
      refine x_iload_n dX9_count_29 rfl ?_
      refine x_tabIn (off := 76) (tgt := 106) dX9_count_30 (by decide) (by decide) (by decide) (by decide) ?_
      refine x_aload_n dX9_count_106 rfl ?_
      refine s_getr (ci := 9) (k := 2) (N := 20) (C := RX9) (T := TX9) dX9_count_107 lfX9_13 inX9 rfl (by decide) (rfl) rfl ?_
      refine x_iconst (v := 2) dX9_count_110 (by decide) ?_
      refine s_iald dX9_count_111 (rfl) (j := 2) (hi := by decide) (hj := by omega) (hn := by decide) ?_
      exact s_iret dX9_count_112 rfl (⟨rfl, rfl⟩)
    · skip
      refine x_iload_n dX9_count_29 rfl ?_
      refine x_tabIn (off := 83) (tgt := 113) dX9_count_30 (by decide) (by decide) (by decide) (by decide) ?_
      refine x_iload_n dX9_count_113 rfl ?_
      exact s_iret dX9_count_114 rfl (⟨rfl, rfl⟩)
    · skip
      refine x_iload_n dX9_count_29 rfl ?_
      refine x_tabIn (off := 85) (tgt := 115) dX9_count_30 (by decide) (by decide) (by decide) (by decide) ?_
      refine x_aload_n dX9_count_115 rfl ?_
      refine s_callV dX9_count_116 (k_sated σ hn hn8) rfl w_X9_sated lmX9_157 im_X9_sated se_X9_sated rfl (rfl) rfl (Nat.le_of_ble_eq_true rfl) rfl (by decide) (fun v_116 σ_116 h_116 => ?_)
      obtain ⟨rfl, z_116⟩ := h_116
      have z_116 := z_116.symm
      subst z_116
      exact s_iret dX9_count_119 rfl (⟨rfl, rfl⟩)
    · skip
      refine x_iload_n dX9_count_29 rfl ?_
      refine x_tabIn (off := 90) (tgt := 120) dX9_count_30 (by decide) (by decide) (by decide) (by decide) ?_
      refine x_aload_n dX9_count_120 rfl ?_
      refine s_getr (ci := 9) (k := 4) (N := 20) (C := RX9) (T := TX9) dX9_count_121 lfX9_19 inX9 rfl (by decide) (rfl) rfl ?_
      refine x_bipush (v := 17) dX9_count_124 (by decide) ?_
      refine s_iald dX9_count_126 (rfl) (j := 17) (hi := by decide) (hj := by omega) (hn := by decide) ?_
      exact s_iret dX9_count_127 rfl (⟨rfl, rfl⟩)
    · skip
      refine x_iload_n dX9_count_29 rfl ?_
      refine x_tabIn (off := 98) (tgt := 128) dX9_count_30 (by decide) (by decide) (by decide) (by decide) ?_
      refine x_aload_n dX9_count_128 rfl ?_
      refine s_geti (ci := 9) (k := 10) (N := 20) (C := RX9) (T := TX9) dX9_count_129 lfX9_104 inX9 rfl (by decide) (rfl) rfl ?_
      exact s_iret dX9_count_132 rfl (⟨by rw [hq]; rfl, rfl⟩)
    · skip
      refine x_iload_n dX9_count_29 rfl ?_
      refine x_tabIn (off := 103) (tgt := 133) dX9_count_30 (by decide) (by decide) (by decide) (by decide) ?_
      refine x_aload_n dX9_count_133 rfl ?_
      refine s_geti (ci := 9) (k := 6) (N := 20) (C := RX9) (T := TX9) dX9_count_134 lfX9_101 inX9 rfl (by decide) (rfl) rfl ?_
      exact s_iret dX9_count_137 rfl (⟨by rw [hu]; rfl, rfl⟩)
    · skip
      refine x_iload_n dX9_count_29 rfl ?_
      refine x_tabIn (off := 108) (tgt := 138) dX9_count_30 (by decide) (by decide) (by decide) (by decide) ?_
      refine x_aload_n dX9_count_138 rfl ?_
      refine s_geti (ci := 9) (k := 1) (N := 20) (C := RX9) (T := TX9) dX9_count_139 lfX9_55 inX9 rfl (by decide) (rfl) rfl ?_
      exact s_iret dX9_count_142 rfl (⟨by rw [hl]; rfl, rfl⟩)
  refine x_iconst (v := 0) dX9_count_0 (by decide) ?_
  refine x_istore_n dX9_count_1 (Nat.le_of_ble_eq_true rfl) rfl ?_
  refine x_iconst (v := 0) dX9_count_2 (by decide) ?_
  refine x_istore_n dX9_count_3 (Nat.le_of_ble_eq_true rfl) rfl ?_
  exact l_mcount σ hn hn8 tail n 0 (by omega)
set_option maxRecDepth 100000 in
theorem k_mwrite_o (σ : Sg) (w : Int32) (h : rgF 0 255 w = false) : Cm 12 YX9_write [.ref 81, .int w] σ (fun v σ' => v = some (.int (-3)) ∧ σ' = σ) := by
  refine Cm_of (by decide +kernel) (Nat.le_of_ble_eq_true rfl) ?_
  refine x_iload_n dX9_write_0 rfl ?_
  refine x_iconst (v := 0) dX9_write_1 (by decide) ?_
  refine x_sipush (v := 255) dX9_write_2 (by decide) ?_
  refine s_callS dX9_write_5 (k_in σ _ _ _) rfl w_X9_in lmX9_51 st_X9_in rfl (Nat.le_of_ble_eq_true rfl) rfl (by decide) (fun v_5 σ_5 h_5 => ?_)
  obtain ⟨rfl, z_5⟩ := h_5
  have z_5 := z_5.symm
  subst z_5
  refine x_if_ne (tgt := 14) dX9_write_8 (by decide) (fun c_8 => (absurd (by rw [h]; rfl) c_8)) (fun c_8 => ?_)
  refine x_bipush (v := -3) dX9_write_11 (by decide) ?_
  exact s_iret dX9_write_13 rfl (⟨rfl, rfl⟩)
set_option maxRecDepth 100000 in
theorem k_mwrite_f (σ : Sg) {c : Nat} (h1 : σ 81 1 = nI 160) (hc : c < 256) : Cm 12 YX9_write [.ref 81, .int (nI c)] σ (fun v σ' => v = some (.int (-5)) ∧ σ' = σ) := by
  refine Cm_of (by decide +kernel) (Nat.le_of_ble_eq_true rfl) ?_
  refine x_iload_n dX9_write_0 rfl ?_
  refine x_iconst (v := 0) dX9_write_1 (by decide) ?_
  refine x_sipush (v := 255) dX9_write_2 (by decide) ?_
  refine s_callS dX9_write_5 (k_in σ _ _ _) rfl w_X9_in lmX9_51 st_X9_in rfl (Nat.le_of_ble_eq_true rfl) rfl (by decide) (fun v_5 σ_5 h_5 => ?_)
  obtain ⟨rfl, z_5⟩ := h_5
  have z_5 := z_5.symm
  subst z_5
  refine x_if_ne (tgt := 14) dX9_write_8 (by decide) (fun c_8 => ?_) (fun c_8 => (absurd c_8 (by rw [show rgF 0 255 (nI c) = true from rgF_i (a := 0) (b := 255) (by omega) (by omega) (by decide)]; decide)))
  refine x_aload_n dX9_write_14 rfl ?_
  refine s_geti (ci := 9) (k := 1) (N := 20) (C := RX9) (T := TX9) dX9_write_15 lfX9_55 inX9 rfl (by decide) (rfl) rfl ?_
  refine x_sipush (v := 160) dX9_write_18 (by decide) ?_
  refine x_icmp_ne (tgt := 27) dX9_write_21 (by decide) (fun c_21 => (absurd h1 c_21)) (fun c_21 => ?_)
  refine x_bipush (v := -5) dX9_write_24 (by decide) ?_
  exact s_iret dX9_write_26 rfl (⟨rfl, rfl⟩)
set_option maxRecDepth 100000 in
theorem k_mwrite (σ : Sg) {len c : Nat} (h1 : σ 81 1 = nI len) (h2 : len < 160) (hc : c < 256) : Cm 12 YX9_write [.ref 81, .int (nI c)] σ (fun v σ' => v = some (.int (nI (len + 1))) ∧ σ' = sg (sg σ 82 len (nI c)) 81 1 (nI (len + 1))) := by
  refine Cm_of (by decide +kernel) (Nat.le_of_ble_eq_true rfl) ?_
  refine x_iload_n dX9_write_0 rfl ?_
  refine x_iconst (v := 0) dX9_write_1 (by decide) ?_
  refine x_sipush (v := 255) dX9_write_2 (by decide) ?_
  refine s_callS dX9_write_5 (k_in σ _ _ _) rfl w_X9_in lmX9_51 st_X9_in rfl (Nat.le_of_ble_eq_true rfl) rfl (by decide) (fun v_5 σ_5 h_5 => ?_)
  obtain ⟨rfl, z_5⟩ := h_5
  have z_5 := z_5.symm
  subst z_5
  refine x_if_ne (tgt := 14) dX9_write_8 (by decide) (fun c_8 => ?_) (fun c_8 => (absurd c_8 (by rw [show rgF 0 255 (nI c) = true from rgF_i (a := 0) (b := 255) (by omega) (by omega) (by decide)]; decide)))
  refine x_aload_n dX9_write_14 rfl ?_
  refine s_geti (ci := 9) (k := 1) (N := 20) (C := RX9) (T := TX9) dX9_write_15 lfX9_55 inX9 rfl (by decide) (rfl) rfl ?_
  refine x_sipush (v := 160) dX9_write_18 (by decide) ?_
  refine x_icmp_ne (tgt := 27) dX9_write_21 (by decide) (fun c_21 => ?_) (fun c_21 => (absurd c_21 (fun e => by rw [h1] at e; exact absurd ((nI_eq (a := len) (b := 160) (by omega) (by decide)).mp e) (by omega))))
  refine x_aload_n dX9_write_27 rfl ?_
  refine s_getr (ci := 9) (k := 0) (N := 20) (C := RX9) (T := TX9) dX9_write_28 lfX9_7 inX9 rfl (by decide) (rfl) rfl ?_
  refine x_aload_n dX9_write_31 rfl ?_
  refine s_geti (ci := 9) (k := 1) (N := 20) (C := RX9) (T := TX9) dX9_write_32 lfX9_55 inX9 rfl (by decide) (rfl) rfl ?_
  refine x_iload_n dX9_write_35 rfl ?_
  refine s_iast dX9_write_36 (rfl) (hi := h1) (hj := by omega) (hn := by decide) ?_
  refine xname (fun σ_36 e_36 => ?_)
  refine x_aload_n dX9_write_37 rfl ?_
  refine x_dup dX9_write_38 rfl ?_
  refine s_geti (ci := 9) (k := 1) (N := 20) (C := RX9) (T := TX9) dX9_write_39 lfX9_55 inX9 rfl (by decide) (rfl) rfl ?_
  refine x_iconst (v := 1) dX9_write_42 (by decide) ?_
  refine x_iadd dX9_write_43 ?_
  rw [show σ_36 81 1 = nI len by rw [e_36, sg_n _ _ _ (by decide)]; exact h1, nI_1]
  refine s_puti (ci := 9) (k := 1) (N := 20) (C := RX9) (T := TX9) (ty0 := tyX9) dX9_write_44 lfX9_55 inX9 tyX9_ok nmX9 rfl (by decide) rfl rfl (rfl) rfl ?_
  refine xname (fun σ_44 e_44 => ?_)
  refine x_aload_n dX9_write_47 rfl ?_
  refine s_geti (ci := 9) (k := 1) (N := 20) (C := RX9) (T := TX9) dX9_write_48 lfX9_55 inX9 rfl (by decide) (rfl) rfl ?_
  exact s_iret dX9_write_51 rfl (⟨by rw [e_44, sg_s], by rw [e_44, e_36]⟩)
set_option maxRecDepth 100000 in
theorem k_merase (σ : Sg) : Cm 12 YX9_erase [.ref 81] σ (fun v σ' => v = some (.int (σ 81 1)) ∧ σ' = sg σ 81 1 0) := by
  refine Cm_of (by decide +kernel) (Nat.le_of_ble_eq_true rfl) ?_
  refine x_aload_n dX9_erase_0 rfl ?_
  refine s_geti (ci := 9) (k := 1) (N := 20) (C := RX9) (T := TX9) dX9_erase_1 lfX9_55 inX9 rfl (by decide) (rfl) rfl ?_
  refine x_istore_n dX9_erase_4 (Nat.le_of_ble_eq_true rfl) rfl ?_
  refine x_aload_n dX9_erase_5 rfl ?_
  refine x_iconst (v := 0) dX9_erase_6 (by decide) ?_
  refine s_puti (ci := 9) (k := 1) (N := 20) (C := RX9) (T := TX9) (ty0 := tyX9) dX9_erase_7 lfX9_55 inX9 tyX9_ok nmX9 rfl (by decide) rfl rfl (rfl) rfl ?_
  refine x_iload_n dX9_erase_10 rfl ?_
  exact s_iret dX9_erase_11 rfl (⟨rfl, rfl⟩)
set_option maxRecDepth 100000 in
theorem k_mforget (σ : Sg) : Cm 12 YX9_forget [.ref 81] σ (fun v σ' => v = some (.int (σ 81 10)) ∧ σ' = sg σ 81 10 0) := by
  refine Cm_of (by decide +kernel) (Nat.le_of_ble_eq_true rfl) ?_
  refine x_aload_n dX9_forget_0 rfl ?_
  refine s_geti (ci := 9) (k := 10) (N := 20) (C := RX9) (T := TX9) dX9_forget_1 lfX9_104 inX9 rfl (by decide) (rfl) rfl ?_
  refine x_istore_n dX9_forget_4 (Nat.le_of_ble_eq_true rfl) rfl ?_
  refine x_aload_n dX9_forget_5 rfl ?_
  refine x_iconst (v := 0) dX9_forget_6 (by decide) ?_
  refine s_puti (ci := 9) (k := 10) (N := 20) (C := RX9) (T := TX9) (ty0 := tyX9) dX9_forget_7 lfX9_104 inX9 tyX9_ok nmX9 rfl (by decide) rfl rfl (rfl) rfl ?_
  refine x_iload_n dX9_forget_10 rfl ?_
  exact s_iret dX9_forget_11 rfl (⟨rfl, rfl⟩)

set_option maxRecDepth 100000 in
theorem k_mseen_u (σ : Sg) {n : Nat} (hn : σ 83 0 = nI n) (hn8 : n ≤ 8) (s w : Int32) (hs : inb n s = false) (h1 : ¬ s = -1) : Cm 12 YX9_seen [.ref 81, .int s, .int w] σ (fun v σ' => v = some (.int (-2)) ∧ σ' = σ) := by
  refine Cm_of (by decide +kernel) (Nat.le_of_ble_eq_true rfl) ?_
  refine x_iload_n dX9_seen_0 rfl ?_
  refine x_iconst (v := -1) dX9_seen_1 (by decide) ?_
  refine x_icmp_eq (tgt := 16) dX9_seen_2 (by decide) (fun c_2 => (absurd c_2 h1)) (fun c_2 => ?_)
  refine x_aload_n dX9_seen_5 rfl ?_
  refine x_iload_n dX9_seen_6 rfl ?_
  refine s_callV dX9_seen_7 (k_isStreet σ hn hn8 _) rfl w_X9_isStreet lmX9_129 im_X9_isStreet se_X9_isStreet rfl (rfl) rfl (Nat.le_of_ble_eq_true rfl) rfl (by decide) (fun v_7 σ_7 h_7 => ?_)
  obtain ⟨rfl, z_7⟩ := h_7
  have z_7 := z_7.symm
  subst z_7
  refine x_if_ne (tgt := 16) dX9_seen_10 (by decide) (fun c_10 => (absurd (by rw [hs]; rfl) c_10)) (fun c_10 => ?_)
  refine x_bipush (v := -2) dX9_seen_13 (by decide) ?_
  exact s_iret dX9_seen_15 rfl (⟨rfl, rfl⟩)
set_option maxRecDepth 100000 in
theorem k_mseen_o (σ : Sg) {n : Nat} (hn : σ 83 0 = nI n) (hn8 : n ≤ 8) (s w : Int32) (hs : inq n s) (h : rgF 1 20 w = false) : Cm 12 YX9_seen [.ref 81, .int s, .int w] σ (fun v σ' => v = some (.int (-3)) ∧ σ' = σ) := by
  refine Cm_of (by decide +kernel) (Nat.le_of_ble_eq_true rfl) ?_
  have hb : ¬ s = -1 → inb n s = true := fun h1 => by rcases hs with q | ⟨k, hk, rfl⟩; exact absurd q h1; exact inb_nI hk (by omega)
  refine x_iload_n dX9_seen_0 rfl ?_
  refine x_iconst (v := -1) dX9_seen_1 (by decide) ?_
  refine x_icmp_eq (tgt := 16) dX9_seen_2 (by decide) (fun c_2 => ?_) (fun c_2 => ?_)
  · refine x_iload_n dX9_seen_16 rfl ?_
    refine x_iconst (v := 1) dX9_seen_17 (by decide) ?_
    refine x_bipush (v := 20) dX9_seen_18 (by decide) ?_
    refine s_callS dX9_seen_20 (k_in σ _ _ _) rfl w_X9_in lmX9_51 st_X9_in rfl (Nat.le_of_ble_eq_true rfl) rfl (by decide) (fun v_20 σ_20 h_20 => ?_)
    obtain ⟨rfl, z_20⟩ := h_20
    have z_20 := z_20.symm
    subst z_20
    refine x_if_ne (tgt := 29) dX9_seen_23 (by decide) (fun c_23 => (absurd (by rw [h]; rfl) c_23)) (fun c_23 => ?_)
    refine x_bipush (v := -3) dX9_seen_26 (by decide) ?_
    exact s_iret dX9_seen_28 rfl (⟨rfl, rfl⟩)
  · refine x_aload_n dX9_seen_5 rfl ?_
    refine x_iload_n dX9_seen_6 rfl ?_
    refine s_callV dX9_seen_7 (k_isStreet σ hn hn8 _) rfl w_X9_isStreet lmX9_129 im_X9_isStreet se_X9_isStreet rfl (rfl) rfl (Nat.le_of_ble_eq_true rfl) rfl (by decide) (fun v_7 σ_7 h_7 => ?_)
    obtain ⟨rfl, z_7⟩ := h_7
    have z_7 := z_7.symm
    subst z_7
    refine x_if_ne (tgt := 16) dX9_seen_10 (by decide) (fun c_10 => ?_) (fun c_10 => (absurd c_10 (by rw [hb c_2]; decide)))
    refine x_iload_n dX9_seen_16 rfl ?_
    refine x_iconst (v := 1) dX9_seen_17 (by decide) ?_
    refine x_bipush (v := 20) dX9_seen_18 (by decide) ?_
    refine s_callS dX9_seen_20 (k_in σ _ _ _) rfl w_X9_in lmX9_51 st_X9_in rfl (Nat.le_of_ble_eq_true rfl) rfl (by decide) (fun v_20 σ_20 h_20 => ?_)
    obtain ⟨rfl, z_20⟩ := h_20
    have z_20 := z_20.symm
    subst z_20
    refine x_if_ne (tgt := 29) dX9_seen_23 (by decide) (fun c_23 => (absurd (by rw [h]; rfl) c_23)) (fun c_23 => ?_)
    refine x_bipush (v := -3) dX9_seen_26 (by decide) ?_
    exact s_iret dX9_seen_28 rfl (⟨rfl, rfl⟩)
set_option maxRecDepth 100000 in
theorem k_mseen_f (σ : Sg) {n w : Nat} (hn : σ 83 0 = nI n) (hn8 : n ≤ 8) (s : Int32) (hs : inq n s) (hw1 : 1 ≤ w) (hw2 : w ≤ 20) (hq : σ 81 10 = nI 6) : Cm 12 YX9_seen [.ref 81, .int s, .int (nI w)] σ (fun v σ' => v = some (.int (-5)) ∧ σ' = σ) := by
  refine Cm_of (by decide +kernel) (Nat.le_of_ble_eq_true rfl) ?_
  have hb : ¬ s = -1 → inb n s = true := fun h1 => by rcases hs with q | ⟨k, hk, rfl⟩; exact absurd q h1; exact inb_nI hk (by omega)
  refine x_iload_n dX9_seen_0 rfl ?_
  refine x_iconst (v := -1) dX9_seen_1 (by decide) ?_
  refine x_icmp_eq (tgt := 16) dX9_seen_2 (by decide) (fun c_2 => ?_) (fun c_2 => ?_)
  · refine x_iload_n dX9_seen_16 rfl ?_
    refine x_iconst (v := 1) dX9_seen_17 (by decide) ?_
    refine x_bipush (v := 20) dX9_seen_18 (by decide) ?_
    refine s_callS dX9_seen_20 (k_in σ _ _ _) rfl w_X9_in lmX9_51 st_X9_in rfl (Nat.le_of_ble_eq_true rfl) rfl (by decide) (fun v_20 σ_20 h_20 => ?_)
    obtain ⟨rfl, z_20⟩ := h_20
    have z_20 := z_20.symm
    subst z_20
    refine x_if_ne (tgt := 29) dX9_seen_23 (by decide) (fun c_23 => ?_) (fun c_23 => (absurd c_23 (by rw [show rgF 1 20 (nI w) = true from rgF_i (a := 1) (b := 20) hw1 hw2 (by decide)]; decide)))
    refine x_aload_n dX9_seen_29 rfl ?_
    refine s_geti (ci := 9) (k := 10) (N := 20) (C := RX9) (T := TX9) dX9_seen_30 lfX9_104 inX9 rfl (by decide) (rfl) rfl ?_
    refine x_bipush (v := 6) dX9_seen_33 (by decide) ?_
    refine x_icmp_ne (tgt := 41) dX9_seen_35 (by decide) (fun c_35 => (absurd hq c_35)) (fun c_35 => ?_)
    refine x_bipush (v := -5) dX9_seen_38 (by decide) ?_
    exact s_iret dX9_seen_40 rfl (⟨rfl, rfl⟩)
  · refine x_aload_n dX9_seen_5 rfl ?_
    refine x_iload_n dX9_seen_6 rfl ?_
    refine s_callV dX9_seen_7 (k_isStreet σ hn hn8 _) rfl w_X9_isStreet lmX9_129 im_X9_isStreet se_X9_isStreet rfl (rfl) rfl (Nat.le_of_ble_eq_true rfl) rfl (by decide) (fun v_7 σ_7 h_7 => ?_)
    obtain ⟨rfl, z_7⟩ := h_7
    have z_7 := z_7.symm
    subst z_7
    refine x_if_ne (tgt := 16) dX9_seen_10 (by decide) (fun c_10 => ?_) (fun c_10 => (absurd c_10 (by rw [hb c_2]; decide)))
    refine x_iload_n dX9_seen_16 rfl ?_
    refine x_iconst (v := 1) dX9_seen_17 (by decide) ?_
    refine x_bipush (v := 20) dX9_seen_18 (by decide) ?_
    refine s_callS dX9_seen_20 (k_in σ _ _ _) rfl w_X9_in lmX9_51 st_X9_in rfl (Nat.le_of_ble_eq_true rfl) rfl (by decide) (fun v_20 σ_20 h_20 => ?_)
    obtain ⟨rfl, z_20⟩ := h_20
    have z_20 := z_20.symm
    subst z_20
    refine x_if_ne (tgt := 29) dX9_seen_23 (by decide) (fun c_23 => ?_) (fun c_23 => (absurd c_23 (by rw [show rgF 1 20 (nI w) = true from rgF_i (a := 1) (b := 20) hw1 hw2 (by decide)]; decide)))
    refine x_aload_n dX9_seen_29 rfl ?_
    refine s_geti (ci := 9) (k := 10) (N := 20) (C := RX9) (T := TX9) dX9_seen_30 lfX9_104 inX9 rfl (by decide) (rfl) rfl ?_
    refine x_bipush (v := 6) dX9_seen_33 (by decide) ?_
    refine x_icmp_ne (tgt := 41) dX9_seen_35 (by decide) (fun c_35 => (absurd hq c_35)) (fun c_35 => ?_)
    refine x_bipush (v := -5) dX9_seen_38 (by decide) ?_
    exact s_iret dX9_seen_40 rfl (⟨rfl, rfl⟩)
set_option maxRecDepth 100000 in
theorem k_mseen (σ : Sg) {n w q : Nat} (hn : σ 83 0 = nI n) (hn8 : n ≤ 8) (s : Int32) (hs : inq n s) (hw1 : 1 ≤ w) (hw2 : w ≤ 20) (hq : σ 81 10 = nI q) (hq6 : q < 6) : Cm 12 YX9_seen [.ref 81, .int s, .int (nI w)] σ (fun v σ' => v = some (.int (nI (q + 1))) ∧ σ' = sg (sg σ 89 q (10 * nI w + s + 1)) 81 10 (nI (q + 1))) := by
  refine Cm_of (by decide +kernel) (Nat.le_of_ble_eq_true rfl) ?_
  have hb : ¬ s = -1 → inb n s = true := fun h1 => by rcases hs with q | ⟨k, hk, rfl⟩; exact absurd q h1; exact inb_nI hk (by omega)
  refine x_iload_n dX9_seen_0 rfl ?_
  refine x_iconst (v := -1) dX9_seen_1 (by decide) ?_
  refine x_icmp_eq (tgt := 16) dX9_seen_2 (by decide) (fun c_2 => ?_) (fun c_2 => ?_)
  · refine x_iload_n dX9_seen_16 rfl ?_
    refine x_iconst (v := 1) dX9_seen_17 (by decide) ?_
    refine x_bipush (v := 20) dX9_seen_18 (by decide) ?_
    refine s_callS dX9_seen_20 (k_in σ _ _ _) rfl w_X9_in lmX9_51 st_X9_in rfl (Nat.le_of_ble_eq_true rfl) rfl (by decide) (fun v_20 σ_20 h_20 => ?_)
    obtain ⟨rfl, z_20⟩ := h_20
    have z_20 := z_20.symm
    subst z_20
    refine x_if_ne (tgt := 29) dX9_seen_23 (by decide) (fun c_23 => ?_) (fun c_23 => (absurd c_23 (by rw [show rgF 1 20 (nI w) = true from rgF_i (a := 1) (b := 20) hw1 hw2 (by decide)]; decide)))
    refine x_aload_n dX9_seen_29 rfl ?_
    refine s_geti (ci := 9) (k := 10) (N := 20) (C := RX9) (T := TX9) dX9_seen_30 lfX9_104 inX9 rfl (by decide) (rfl) rfl ?_
    refine x_bipush (v := 6) dX9_seen_33 (by decide) ?_
    refine x_icmp_ne (tgt := 41) dX9_seen_35 (by decide) (fun c_35 => ?_) (fun c_35 => (absurd c_35 (fun e => by rw [hq] at e; exact absurd ((nI_eq (a := q) (b := 6) (by omega) (by decide)).mp e) (by omega))))
    refine x_aload_n dX9_seen_41 rfl ?_
    refine s_getr (ci := 9) (k := 9) (N := 20) (C := RX9) (T := TX9) dX9_seen_42 lfX9_32 inX9 rfl (by decide) (rfl) rfl ?_
    refine x_aload_n dX9_seen_45 rfl ?_
    refine s_geti (ci := 9) (k := 10) (N := 20) (C := RX9) (T := TX9) dX9_seen_46 lfX9_104 inX9 rfl (by decide) (rfl) rfl ?_
    refine x_bipush (v := 10) dX9_seen_49 (by decide) ?_
    refine x_iload_n dX9_seen_51 rfl ?_
    refine x_imul dX9_seen_52 ?_
    refine x_iload_n dX9_seen_53 rfl ?_
    refine x_iadd dX9_seen_54 ?_
    refine x_iconst (v := 1) dX9_seen_55 (by decide) ?_
    refine x_iadd dX9_seen_56 ?_
    refine s_iast dX9_seen_57 (rfl) (hi := hq) (hj := by omega) (hn := by decide) ?_
    refine xname (fun σ_57 e_57 => ?_)
    refine x_aload_n dX9_seen_58 rfl ?_
    refine x_dup dX9_seen_59 rfl ?_
    refine s_geti (ci := 9) (k := 10) (N := 20) (C := RX9) (T := TX9) dX9_seen_60 lfX9_104 inX9 rfl (by decide) (rfl) rfl ?_
    refine x_iconst (v := 1) dX9_seen_63 (by decide) ?_
    refine x_iadd dX9_seen_64 ?_
    rw [show σ_57 81 10 = nI q by rw [e_57, sg_n _ _ _ (by decide)]; exact hq, nI_1]
    refine s_puti (ci := 9) (k := 10) (N := 20) (C := RX9) (T := TX9) (ty0 := tyX9) dX9_seen_65 lfX9_104 inX9 tyX9_ok nmX9 rfl (by decide) rfl rfl (rfl) rfl ?_
    refine xname (fun σ_65 e_65 => ?_)
    refine x_aload_n dX9_seen_68 rfl ?_
    refine s_geti (ci := 9) (k := 10) (N := 20) (C := RX9) (T := TX9) dX9_seen_69 lfX9_104 inX9 rfl (by decide) (rfl) rfl ?_
    exact s_iret dX9_seen_72 rfl (⟨by rw [e_65, sg_s], by rw [e_65, e_57]⟩)
  · refine x_aload_n dX9_seen_5 rfl ?_
    refine x_iload_n dX9_seen_6 rfl ?_
    refine s_callV dX9_seen_7 (k_isStreet σ hn hn8 _) rfl w_X9_isStreet lmX9_129 im_X9_isStreet se_X9_isStreet rfl (rfl) rfl (Nat.le_of_ble_eq_true rfl) rfl (by decide) (fun v_7 σ_7 h_7 => ?_)
    obtain ⟨rfl, z_7⟩ := h_7
    have z_7 := z_7.symm
    subst z_7
    refine x_if_ne (tgt := 16) dX9_seen_10 (by decide) (fun c_10 => ?_) (fun c_10 => (absurd c_10 (by rw [hb c_2]; decide)))
    refine x_iload_n dX9_seen_16 rfl ?_
    refine x_iconst (v := 1) dX9_seen_17 (by decide) ?_
    refine x_bipush (v := 20) dX9_seen_18 (by decide) ?_
    refine s_callS dX9_seen_20 (k_in σ _ _ _) rfl w_X9_in lmX9_51 st_X9_in rfl (Nat.le_of_ble_eq_true rfl) rfl (by decide) (fun v_20 σ_20 h_20 => ?_)
    obtain ⟨rfl, z_20⟩ := h_20
    have z_20 := z_20.symm
    subst z_20
    refine x_if_ne (tgt := 29) dX9_seen_23 (by decide) (fun c_23 => ?_) (fun c_23 => (absurd c_23 (by rw [show rgF 1 20 (nI w) = true from rgF_i (a := 1) (b := 20) hw1 hw2 (by decide)]; decide)))
    refine x_aload_n dX9_seen_29 rfl ?_
    refine s_geti (ci := 9) (k := 10) (N := 20) (C := RX9) (T := TX9) dX9_seen_30 lfX9_104 inX9 rfl (by decide) (rfl) rfl ?_
    refine x_bipush (v := 6) dX9_seen_33 (by decide) ?_
    refine x_icmp_ne (tgt := 41) dX9_seen_35 (by decide) (fun c_35 => ?_) (fun c_35 => (absurd c_35 (fun e => by rw [hq] at e; exact absurd ((nI_eq (a := q) (b := 6) (by omega) (by decide)).mp e) (by omega))))
    refine x_aload_n dX9_seen_41 rfl ?_
    refine s_getr (ci := 9) (k := 9) (N := 20) (C := RX9) (T := TX9) dX9_seen_42 lfX9_32 inX9 rfl (by decide) (rfl) rfl ?_
    refine x_aload_n dX9_seen_45 rfl ?_
    refine s_geti (ci := 9) (k := 10) (N := 20) (C := RX9) (T := TX9) dX9_seen_46 lfX9_104 inX9 rfl (by decide) (rfl) rfl ?_
    refine x_bipush (v := 10) dX9_seen_49 (by decide) ?_
    refine x_iload_n dX9_seen_51 rfl ?_
    refine x_imul dX9_seen_52 ?_
    refine x_iload_n dX9_seen_53 rfl ?_
    refine x_iadd dX9_seen_54 ?_
    refine x_iconst (v := 1) dX9_seen_55 (by decide) ?_
    refine x_iadd dX9_seen_56 ?_
    refine s_iast dX9_seen_57 (rfl) (hi := hq) (hj := by omega) (hn := by decide) ?_
    refine xname (fun σ_57 e_57 => ?_)
    refine x_aload_n dX9_seen_58 rfl ?_
    refine x_dup dX9_seen_59 rfl ?_
    refine s_geti (ci := 9) (k := 10) (N := 20) (C := RX9) (T := TX9) dX9_seen_60 lfX9_104 inX9 rfl (by decide) (rfl) rfl ?_
    refine x_iconst (v := 1) dX9_seen_63 (by decide) ?_
    refine x_iadd dX9_seen_64 ?_
    rw [show σ_57 81 10 = nI q by rw [e_57, sg_n _ _ _ (by decide)]; exact hq, nI_1]
    refine s_puti (ci := 9) (k := 10) (N := 20) (C := RX9) (T := TX9) (ty0 := tyX9) dX9_seen_65 lfX9_104 inX9 tyX9_ok nmX9 rfl (by decide) rfl rfl (rfl) rfl ?_
    refine xname (fun σ_65 e_65 => ?_)
    refine x_aload_n dX9_seen_68 rfl ?_
    refine s_geti (ci := 9) (k := 10) (N := 20) (C := RX9) (T := TX9) dX9_seen_69 lfX9_104 inX9 rfl (by decide) (rfl) rfl ?_
    exact s_iret dX9_seen_72 rfl (⟨by rw [e_65, sg_s], by rw [e_65, e_57]⟩)
