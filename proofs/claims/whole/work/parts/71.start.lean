/-! ===== the model's constructor to its end; Inv at the start ===== -/
def S9 (σ' : Sg) : Prop := ∃ W V σ2 : _, (W : FN) 0 = 0 ∧ W 1 = 30 ∧ W 2 = 8 ∧ (∀ i, i < 43 → (V : FN) i = W i) ∧ σ2 = sw (sw σ9 84 W) 83 V ∧ LY 0 σ2 σ'
set_option maxRecDepth 100000 in
theorem m_init1 : Ex (YX9_init, 12, xB0, none) 90 [.ref 81, .null] [] (xMs σ9) (xQ (fun v σ' => v = none ∧ S9 σ')) := by
  have loop : ∀ (W : FN), W 0 = 0 → W 1 = 30 → W 2 = 8 → ∀ (j k : Nat) (V : FN), k + j = 43 → (∀ i, i < k → V i = W i) → Ex (YX9_init, 12, xB0, none) 96 [.ref 81, .int (nI k)] [] (xMs (sw (sw σ9 84 W) 83 V)) (xQ (fun v σ' => v = none ∧ S9 σ')) := by
    intro W w0 w1 w2 j
    induction j with
    | zero =>
      intro k V hk hV
      obtain rfl : k = 43 := by omega
      refine x_iload_n dX9_init_96 rfl ?_
      refine x_bipush (v := 43) dX9_init_97 (by decide) ?_
      refine x_icmp_ge (tgt := 120) dX9_init_99 (by decide) (fun c_99 => ?_) (fun c_99 => (absurd (by decide) c_99))
      refine x_aload_n dX9_init_120 rfl ?_
      refine s_callV dX9_init_121 (k_lays (sw (sw σ9 84 W) 83 V) (n := 0) (by decide)) rfl w_X9_lays lmX9_48 im_X9_lays se_X9_lays rfl (rfl) rfl (Nat.le_of_ble_eq_true rfl) rfl (by decide) (fun v_121 σ_121 h_121 => ?_)
      obtain ⟨rfl, ly⟩ := h_121
      exact s_ret dX9_init_124 rfl (⟨rfl, W, V, _, w0, w1, w2, hV, rfl, ly⟩)
    | succ j ih =>
      intro k V hk hV
      have hk8 : k < 43 := by omega
      refine x_iload_n dX9_init_96 rfl ?_
      refine x_bipush (v := 43) dX9_init_97 (by decide) ?_
      refine x_icmp_ge (tgt := 120) dX9_init_99 (by decide) (fun c_99 => (absurd c_99 (show ¬ nI 43 ≤ nI k from nI_ge hk8 (by omega)))) (fun c_99 => ?_)
      refine x_aload_n dX9_init_102 rfl ?_
      refine s_getr (ci := 9) (k := 2) (N := 20) (C := RX9) (T := TX9) dX9_init_103 lfX9_13 inX9 rfl (by decide) (rfl) rfl ?_
      refine x_iload_n dX9_init_106 rfl ?_
      refine x_aload_n dX9_init_107 rfl ?_
      refine s_getr (ci := 9) (k := 3) (N := 20) (C := RX9) (T := TX9) dX9_init_108 lfX9_16 inX9 rfl (by decide) (rfl) rfl ?_
      refine x_iload_n dX9_init_111 rfl ?_
      refine s_iald dX9_init_112 (rfl) (hi := rfl) (hj := by omega) (hn := by decide) ?_
      refine s_iast dX9_init_113 (rfl) (hi := rfl) (hj := by omega) (hn := by decide) ?_
      refine s_iinc dX9_init_114 rfl (Nat.le_of_ble_eq_true rfl) rfl ?_
      refine x_goto (tgt := 96) dX9_init_117 (by decide) ?_
      rw [sg_def _ 83, sw_sw, sw_s]
      refine ih (k + 1) _ (by omega) (fun i hi => ?_)
      unfold upd
      by_cases e : i = k
      · rw [if_pos e, e]; rfl
      · rw [if_neg e]; exact hV i (by omega)
  refine x_aload_n dX9_init_90 rfl ?_
  refine s_callV dX9_init_91 (k_forgets σ9) rfl w_X9_forgets lmX9_45 im_X9_forgets se_X9_forgets rfl (rfl) rfl (Nat.le_of_ble_eq_true rfl) rfl (by decide) (fun v_91 σ_91 h_91 => ?_)
  obtain ⟨rfl, W, w0, w1, w2, rfl⟩ := h_91
  refine x_iconst (v := 0) dX9_init_94 (by decide) ?_
  refine x_istore_n dX9_init_95 (Nat.le_of_ble_eq_true rfl) rfl ?_
  have h := loop W w0 w1 w2 43 0 (sw σ9 84 W 83) (by omega) (fun i hi => by omega)
  rw [sw_id] at h
  exact h
theorem Inv_0 {σ' : Sg} (h : S9 σ') : Inv 0 σ' := by
  obtain ⟨W, V, σ2, w0, w1, w2, hV, rfl, l1, l2, l3, l4, l5, l6, l7⟩ := h
  have v0 : V 0 = 0 := (hV 0 (by decide)).trans w0
  have v1 : V 1 = 30 := (hV 1 (by decide)).trans w1
  have v2 : V 2 = 8 := (hV 2 (by decide)).trans w2
  have lo : ∀ c, c < 81 → σ' c = σ9 c := fun c hc => by rw [l7 c (by omega) (by omega) (by omega), sw_n _ _ (by omega), sw_n _ _ (by omega)]
  have e83 : σ' 83 = V := by rw [l7 83 (by decide) (by decide) (by decide), sw_s]
  have e81 : ∀ i, i ≠ 6 → i ≠ 10 → σ' 81 i = σ9 81 i := fun i a b => by rw [l4 i a b, sw_n _ _ (by decide), sw_n _ _ (by decide)]
  have tr0 : ∀ f g : FN, tr 0 f = tr 0 g := fun f g => tr_ext (fun k hk => absurd hk (Nat.not_lt_zero k))
  have eM : plM 0 σ' 83 = (0, 30, 8, tr 0 zF9, tr 0 zF9, tr 0 zF9, tr 0 zF9, tr 0 zF9) := by
    unfold plM
    rw [e83, v1, v2]
    exact congr rfl (congr rfl (congr rfl (congr (congrArg Prod.mk (tr0 _ _)) (congr (congrArg Prod.mk (tr0 _ _)) (congr (congrArg Prod.mk (tr0 _ _)) (congr (congrArg Prod.mk (tr0 _ _)) (tr0 _ _)))))))
  have eC : plC 0 σ' = (0, 30, 8, tr 0 zF9, tr 0 zF9, tr 0 zF9, tr 0 zF9, tr 0 zF9) := by
    unfold plC
    rw [lo 3 (by decide), show σ9 3 6 = 30 from rfl, show σ9 3 7 = 8 from rfl]
    exact congr rfl (congr rfl (congr rfl (congr (congrArg Prod.mk (tr0 _ _)) (congr (congrArg Prod.mk (tr0 _ _)) (congr (congrArg Prod.mk (tr0 _ _)) (congr (congrArg Prod.mk (tr0 _ _)) (tr0 _ _)))))))
  have eS : moS 0 σ' = (tr 0 zF9, tr 0 zF9, -1, 0) := by
    rw [l1]
    refine congr (congrArg Prod.mk ?_) (congr (congrArg Prod.mk ?_) rfl)
    · exact tr0 (fun i => sw (sw σ9 84 W) 83 V 83 (27 + i)) _
    · exact tr0 (fun i => sw (sw σ9 84 W) 83 V 83 (19 + i)) _
  refine ⟨⟨0, fun _ => 0, ⟨by rw [lo 1 (by decide)]; rfl, by decide, fun i hi => absurd hi (Nat.not_lt_zero i)⟩, ⟨by rw [e81 1 (by decide) (by decide)]; rfl, by decide, fun i hi => absurd hi (Nat.not_lt_zero i)⟩⟩, ⟨by rw [lo 3 (by decide)]; rfl, by rw [e83, v0]; rfl, by rw [eM, eC], ?_⟩, ⟨?_, ?_, 0, by decide, by rw [eS]; rfl⟩, ⟨0, 0, by decide, by decide, by rw [lo 21 (by decide)]; rfl, by rw [lo 21 (by decide)]; rfl, l2, fun j hj => absurd hj (Nat.not_lt_zero j)⟩, fun k hk => Or.inl ?_, ⟨0, by decide, by rw [lo 56 (by decide)]; rfl, l3, fun i hi => by omega⟩, by rw [e81 16 (by decide) (by decide)]; rfl, by rw [e81 17 (by decide) (by decide)]; rfl, by rw [e81 18 (by decide) (by decide)]; rfl⟩
  · rw [eM]
    exact ⟨by decide, ⟨30, by decide, by decide, rfl⟩, ⟨8, by decide, by decide, rfl⟩, fun k hk => absurd hk (Nat.not_lt_zero k)⟩
  · rw [eS]
    unfold moC
    rw [lo 15 (by decide), show σ9 15 2 = -1 from rfl, show σ9 15 3 = 0 from rfl]
    exact congr (congrArg Prod.mk (tr0 _ _)) (congr (congrArg Prod.mk (tr0 _ _)) rfl)
  · rw [eS]
    exact ⟨fun i hi => absurd hi (Nat.not_lt_zero i), fun i hi => absurd hi (Nat.not_lt_zero i), Or.inl rfl⟩
  · rcases (show k = 0 ∨ k = 1 by omega) with rfl | rfl
    · exact ⟨by rw [lo 49 (by decide)]; rfl, l5⟩
    · exact ⟨by rw [lo 49 (by decide)]; rfl, l6⟩
set_option maxRecDepth 100000 in
theorem i_X9 : ExM 12 YX9_init [.ref 81] (hL (k_X8 0 ++ [.inr (9, [.null, .int 0, .null, .null, .null, .null, .int 0, .null, .null, .null, .int 0, .int 0, .int 0, .int 0, .int 0, .null, .int 0, .int 0, .int 0, .null])]), 82, 700) (92, 1178) (fun v M' => v = none ∧ ∃ σ, M' = xMs σ ∧ Inv 0 σ) := by
  refine ExM_of (by decide +kernel) (Nat.le_of_ble_eq_true rfl) (by decide) (fun v M' hh => by obtain ⟨-, σ, rfl, -⟩ := hh; exact ⟨Nat.le_refl _, Nat.le_refl _⟩) ?_
  refine m_init0 (l0 := k_X8 0) (L := 81) (w := 680) rfl (by decide) ?_
  show Ex (YX9_init, 12, xB0, none) 90 [.ref 81, .null] [] (hL (k_X8 0 ++ k_X9 81), 92, 1178) _
  rw [xms9]
  refine Ex.mono m_init1 (fun v M' hh => ?_)
  obtain ⟨σ, rfl, rfl, hs⟩ := hh
  exact ⟨rfl, σ, rfl, Inv_0 hs⟩
