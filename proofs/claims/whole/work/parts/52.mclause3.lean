/-! ===== RainBallotModel's text: a clause ===== -/
theorem MCP_v {len : Nat} {c : Nat → Nat} {σ σ' : Sg} {v : Option Value} {r : Nat ⊕ (PL × Nat)} (h : MCP len c σ σ' v r) : ∃ b : Bool, v = some (.int (bI b)) := by
  cases r with
  | inl f => exact ⟨false, h.2.1⟩
  | inr q => exact ⟨true, h.2.1⟩
theorem wd_one {c : Nat → Nat} {s t i j : Nat} (hi : i < 8) (hj : j < 8) (h : wdF c s t i = true) (h2 : wdF c s t j = true) : i = j := by
  unfold wdF at h h2
  rw [Bool.and_eq_true, alB_iff] at h h2
  have e1 := of_decide_eq_true (h.2 0 (by have := (xlen_8 hi).1; omega))
  have e2 := of_decide_eq_true (h2.2 0 (by have := (xlen_8 hj).1; omega))
  have : ∀ i, i < 8 → ∀ j, j < 8 → xwc i 0 = xwc j 0 → i = j := by decide
  exact this i hi j hj (e1.symm.trans e2)

set_option maxRecDepth 100000 in
set_option maxHeartbeats 2000000 in
theorem k_readsClause (σ : Sg) {len s : Nat} {c : Nat → Nat} {p : PL} (hk : TK len c σ s) (hd : DP σ p) : Cm 5 YX9_readsClause [.ref 81] σ (fun v σ' => MCP len c σ σ' v (clsF len c p s)) := by
  refine Cm_of (by decide +kernel) (Nat.le_of_ble_eq_true rfl) ?_
  have is : ∀ {b : Bool}, ¬ bI b = 0 → b = true := bI_n
  have no : ∀ i j, i < 8 → j < 8 → i ≠ j → wdF c s (tkE len c s) i = true → ¬ wdF c s (tkE len c s) j = true := fun i j hi hj hij h h2 => hij (wd_one hi hj h h2)
  have c0 : wdF c s (tkE len c s) 0 = true → clsF len c p s = .inr (tnP, nxF len c s) := fun h => by unfold clsF; rw [if_pos h]
  have c1 : wdF c s (tkE len c s) 1 = true → clsF len c p s = slF len c p s := fun h => by unfold clsF; rw [if_neg (no 1 0 (by decide) (by decide) (by decide) h), if_pos h]
  have c2 : wdF c s (tkE len c s) 2 = true → clsF len c p s = (if rdB len c (nxF len c s) 5 99 (-1) = false then .inl (nxF len c s) else .inr (cpP p (rdV len c (nxF len c s)), nxF len c (nxF len c s))) := fun h => by unfold clsF; rw [if_neg (no 2 0 (by decide) (by decide) (by decide) h), if_neg (no 2 1 (by decide) (by decide) (by decide) h), if_pos h]
  have c3 : wdF c s (tkE len c s) 3 = true → clsF len c p s = (if rdB len c (nxF len c s) 1 20 (-1) = false then .inl (nxF len c s) else .inr (inP p (rdV len c (nxF len c s)), nxF len c (nxF len c s))) := fun h => by unfold clsF; rw [if_neg (no 3 0 (by decide) (by decide) (by decide) h), if_neg (no 3 1 (by decide) (by decide) (by decide) h), if_neg (no 3 2 (by decide) (by decide) (by decide) h), if_pos h]
  have ck : ∀ k, ¬ wdF c s (tkE len c s) 0 = true → ¬ wdF c s (tkE len c s) 1 = true → ¬ wdF c s (tkE len c s) 2 = true → ¬ wdF c s (tkE len c s) 3 = true → kwF c s (tkE len c s) = k → clsF len c p s = if k = -1 then .inl s else csF len c p s k := fun k h0 h1 h2 h3 h => by unfold clsF; rw [if_neg h0, if_neg h1, if_neg h2, if_neg h3, h]
  have cg : ∀ i (k : Int32), 4 ≤ i → i < 8 → ¬ k = -1 → kwF c s (tkE len c s) = k → wdF c s (tkE len c s) i = true → clsF len c p s = csF len c p s k := fun i k h4 h8 hk1 hkw h => by
    rw [ck k (no i 0 h8 (by decide) (by omega) h) (no i 1 h8 (by decide) (by omega) h) (no i 2 h8 (by decide) (by omega) h) (no i 3 h8 (by decide) (by omega) h) hkw, if_neg hk1]
  have c4 : wdF c s (tkE len c s) 4 = true → clsF len c p s = csF len c p s (nI 0) := fun h => cg 4 _ (by decide) (by decide) (by decide) (by unfold kwF; rw [if_pos h]; rfl) h
  have c5 : wdF c s (tkE len c s) 5 = true → clsF len c p s = csF len c p s (nI 1) := fun h => cg 5 _ (by decide) (by decide) (by decide) (by unfold kwF; rw [if_neg (no 5 4 (by decide) (by decide) (by decide) h), if_pos h]; rfl) h
  have c6 : wdF c s (tkE len c s) 6 = true → clsF len c p s = csF len c p s (nI 2) := fun h => cg 6 _ (by decide) (by decide) (by decide) (by unfold kwF; rw [if_neg (no 6 4 (by decide) (by decide) (by decide) h), if_neg (no 6 5 (by decide) (by decide) (by decide) h), if_pos h]; rfl) h
  have c7 : wdF c s (tkE len c s) 7 = true → clsF len c p s = csF len c p s (nI 3) := fun h => cg 7 _ (by decide) (by decide) (by decide) (by unfold kwF; rw [if_neg (no 7 4 (by decide) (by decide) (by decide) h), if_neg (no 7 5 (by decide) (by decide) (by decide) h), if_neg (no 7 6 (by decide) (by decide) (by decide) h), if_pos h]; rfl) h
  have num : ∀ (σ' : Sg) (j : Nat) (q : PL), q.1 = p.1 → TK len c σ' (nxF len c s) → F4 σ σ' → 0 < j → j < 3 → σ' 84 = upd (σ 84) j (nI (vaF len c (nxF len c s))) → plM p.1 (sw σ 84 (upd (σ 84) j (nI (vaF len c (nxF len c s))))) 84 = q → MCP len c σ σ' (some (.int 1)) (.inr (q, nxF len c (nxF len c s))) := fun σ' j q hq k f hj0 hj3 e hpl => by
    refine TK.mc k f ⟨?_, by rw [hq]; exact hd.2.1, ?_⟩
    · rw [e, hq]; unfold upd; rw [if_neg (by omega)]; exact hd.1
    · rw [hq, plM_fr (σ' := σ') (σ := sw σ 84 (upd (σ 84) j (nI (vaF len c (nxF len c s))))) (by rw [sw_s, e])]; exact hpl
  have pcap : ∀ v : Nat, plM p.1 (sw σ 84 (upd (σ 84) 1 (nI v))) 84 = cpP p v := fun v => by
    have e : ∀ i, i ≠ 1 → sw σ 84 (upd (σ 84) 1 (nI v)) 84 i = σ 84 i := fun i hi => by rw [sw_s]; exact if_neg hi
    unfold cpP
    rw [← hd.2.2]
    unfold plM
    exact congr (congrArg Prod.mk rfl) (congr (congrArg Prod.mk (by rw [sw_s]; rfl)) (congr (congrArg Prod.mk (e 2 (by decide))) (congr (congrArg Prod.mk (tr_ext fun i _ => e (3 + i) (by omega))) (congr (congrArg Prod.mk (tr_ext fun i _ => e (11 + i) (by omega))) (congr (congrArg Prod.mk (tr_ext fun i _ => e (19 + i) (by omega))) (congr (congrArg Prod.mk (tr_ext fun i _ => e (27 + i) (by omega))) (tr_ext fun i _ => e (35 + i) (by omega))))))))
  have pinc : ∀ v : Nat, plM p.1 (sw σ 84 (upd (σ 84) 2 (nI v))) 84 = inP p v := fun v => by
    have e : ∀ i, i ≠ 2 → sw σ 84 (upd (σ 84) 2 (nI v)) 84 i = σ 84 i := fun i hi => by rw [sw_s]; exact if_neg hi
    unfold inP
    rw [← hd.2.2]
    unfold plM
    exact congr (congrArg Prod.mk rfl) (congr (congrArg Prod.mk (e 1 (by decide))) (congr (congrArg Prod.mk (by rw [sw_s]; rfl)) (congr (congrArg Prod.mk (tr_ext fun i _ => e (3 + i) (by omega))) (congr (congrArg Prod.mk (tr_ext fun i _ => e (11 + i) (by omega))) (congr (congrArg Prod.mk (tr_ext fun i _ => e (19 + i) (by omega))) (congr (congrArg Prod.mk (tr_ext fun i _ => e (27 + i) (by omega))) (tr_ext fun i _ => e (35 + i) (by omega))))))))
  have n2 : ∀ σ', TK len c σ' (nxF len c s) → F4 σ σ' → σ' 84 = upd (σ 84) 1 (nI (vaF len c (nxF len c s))) → wdF c s (tkE len c s) 2 = true → MCP len c σ σ' (some (.int (bI (rdB len c (nxF len c s) (nI 5) (nI 99) (-1))))) (clsF len c p s) := fun σ' k f e h => by
    rw [c2 h]
    cases hb : rdB len c (nxF len c s) (nI 5) (nI 99) (-1) with
    | false => rw [show rdB len c (nxF len c s) 5 99 (-1) = false from hb, if_pos rfl]; exact ⟨f, rfl, k.2.2.1⟩
    | true =>
      rw [show rdB len c (nxF len c s) 5 99 (-1) = true from hb, if_neg (by decide), ← va_rd hb]
      exact num σ' 1 _ rfl k f (by decide) (by decide) e (pcap _)
  have n3 : ∀ σ', TK len c σ' (nxF len c s) → F4 σ σ' → σ' 84 = upd (σ 84) 2 (nI (vaF len c (nxF len c s))) → wdF c s (tkE len c s) 3 = true → MCP len c σ σ' (some (.int (bI (rdB len c (nxF len c s) (nI 1) (nI 20) (-1))))) (clsF len c p s) := fun σ' k f e h => by
    rw [c3 h]
    cases hb : rdB len c (nxF len c s) (nI 1) (nI 20) (-1) with
    | false => rw [show rdB len c (nxF len c s) 1 20 (-1) = false from hb, if_pos rfl]; exact ⟨f, rfl, k.2.2.1⟩
    | true =>
      rw [show rdB len c (nxF len c s) 1 20 (-1) = true from hb, if_neg (by decide), ← va_rd hb]
      exact num σ' 2 _ rfl k f (by decide) (by decide) e (pinc _)
  have nn : ∀ {b : Bool}, bI b = 0 → ¬ b = true := fun h z => by rw [z] at h; exact absurd h (by decide)
  have c8 : ¬ wdF c s (tkE len c s) 0 = true → ¬ wdF c s (tkE len c s) 1 = true → ¬ wdF c s (tkE len c s) 2 = true → ¬ wdF c s (tkE len c s) 3 = true → ¬ wdF c s (tkE len c s) 4 = true → ¬ wdF c s (tkE len c s) 5 = true → ¬ wdF c s (tkE len c s) 6 = true → ¬ wdF c s (tkE len c s) 7 = true → MCP len c σ σ (some (.int 0)) (clsF len c p s) := fun h0 h1 h2 h3 h4 h5 h6 h7 => by
    rw [ck (-1) h0 h1 h2 h3 (by unfold kwF; rw [if_neg h4, if_neg h5, if_neg h6, if_neg h7]), if_pos rfl]
    exact ⟨⟨fun _ _ => rfl, fun _ _ _ => rfl⟩, rfl, hk.2.2.1⟩
  have tn : ∀ W : FN, W 0 = 0 → W 1 = 30 → W 2 = 8 → wdF c s (tkE len c s) 0 = true → MCP len c σ (sw σ 84 W) (some (.int 1)) (clsF len c p s) := fun W w0 w1 w2 h => by
    rw [c0 h]
    refine TK.mc (TK_84 hk W) (F4_84 W) ⟨by rw [sw_s, w0]; rfl, Nat.zero_le _, ?_⟩
    show (0, sw σ 84 W 84 1, sw σ 84 W 84 2, tr 0 _, tr 0 _, tr 0 _, tr 0 _, tr 0 _) = tnP
    rw [sw_s, w1, w2, tr_0, tr_0, tr_0, tr_0, tr_0]
    rfl
  refine x_aload_n dX9_readsClause_0 rfl ?_
  refine x_bipush (v := 116) dX9_readsClause_1 (by decide) ?_
  refine x_bipush (v := 111) dX9_readsClause_3 (by decide) ?_
  refine x_bipush (v := 119) dX9_readsClause_5 (by decide) ?_
  refine x_bipush (v := 110) dX9_readsClause_7 (by decide) ?_
  refine x_iconst (v := 0) dX9_readsClause_9 (by decide) ?_
  refine x_iconst (v := 0) dX9_readsClause_10 (by decide) ?_
  refine x_iconst (v := 0) dX9_readsClause_11 (by decide) ?_
  refine s_callV dX9_readsClause_12 (k_mword σ (i := 0) hk (by decide)) rfl w_X9_isWord lmX9_87 im_X9_isWord se_X9_isWord rfl (rfl) rfl (Nat.le_of_ble_eq_true rfl) rfl (by decide) (fun v_12 σ_12 h_12 => ?_)
  obtain ⟨rfl, z_12⟩ := h_12
  have z_12 := z_12.symm
  subst z_12
  refine x_if_eq (tgt := 24) dX9_readsClause_15 (by decide) (fun c_15 => ?_) (fun c_15 => ?_)
  · refine x_aload_n dX9_readsClause_24 rfl ?_
    refine x_bipush (v := 103) dX9_readsClause_25 (by decide) ?_
    refine x_bipush (v := 97) dX9_readsClause_27 (by decide) ?_
    refine x_bipush (v := 114) dX9_readsClause_29 (by decide) ?_
    refine x_bipush (v := 100) dX9_readsClause_31 (by decide) ?_
    refine x_bipush (v := 101) dX9_readsClause_33 (by decide) ?_
    refine x_bipush (v := 110) dX9_readsClause_35 (by decide) ?_
    refine x_iconst (v := 0) dX9_readsClause_37 (by decide) ?_
    refine s_callV dX9_readsClause_38 (k_mword σ (i := 4) hk (by decide)) rfl w_X9_isWord lmX9_87 im_X9_isWord se_X9_isWord rfl (rfl) rfl (Nat.le_of_ble_eq_true rfl) rfl (by decide) (fun v_38 σ_38 h_38 => ?_)
    obtain ⟨rfl, z_38⟩ := h_38
    have z_38 := z_38.symm
    subst z_38
    refine x_if_eq (tgt := 50) dX9_readsClause_41 (by decide) (fun c_41 => ?_) (fun c_41 => ?_)
    · refine x_aload_n dX9_readsClause_50 rfl ?_
      refine x_bipush (v := 111) dX9_readsClause_51 (by decide) ?_
      refine x_bipush (v := 114) dX9_readsClause_53 (by decide) ?_
      refine x_bipush (v := 99) dX9_readsClause_55 (by decide) ?_
      refine x_bipush (v := 104) dX9_readsClause_57 (by decide) ?_
      refine x_bipush (v := 97) dX9_readsClause_59 (by decide) ?_
      refine x_bipush (v := 114) dX9_readsClause_61 (by decide) ?_
      refine x_bipush (v := 100) dX9_readsClause_63 (by decide) ?_
      refine s_callV dX9_readsClause_65 (k_mword σ (i := 5) hk (by decide)) rfl w_X9_isWord lmX9_87 im_X9_isWord se_X9_isWord rfl (rfl) rfl (Nat.le_of_ble_eq_true rfl) rfl (by decide) (fun v_65 σ_65 h_65 => ?_)
      obtain ⟨rfl, z_65⟩ := h_65
      have z_65 := z_65.symm
      subst z_65
      refine x_if_eq (tgt := 77) dX9_readsClause_68 (by decide) (fun c_68 => ?_) (fun c_68 => ?_)
      · refine x_aload_n dX9_readsClause_77 rfl ?_
        refine x_bipush (v := 97) dX9_readsClause_78 (by decide) ?_
        refine x_bipush (v := 108) dX9_readsClause_80 (by decide) ?_
        refine x_bipush (v := 108) dX9_readsClause_82 (by decide) ?_
        refine x_bipush (v := 101) dX9_readsClause_84 (by decide) ?_
        refine x_bipush (v := 121) dX9_readsClause_86 (by decide) ?_
        refine x_iconst (v := 0) dX9_readsClause_88 (by decide) ?_
        refine x_iconst (v := 0) dX9_readsClause_89 (by decide) ?_
        refine s_callV dX9_readsClause_90 (k_mword σ (i := 6) hk (by decide)) rfl w_X9_isWord lmX9_87 im_X9_isWord se_X9_isWord rfl (rfl) rfl (Nat.le_of_ble_eq_true rfl) rfl (by decide) (fun v_90 σ_90 h_90 => ?_)
        obtain ⟨rfl, z_90⟩ := h_90
        have z_90 := z_90.symm
        subst z_90
        refine x_if_eq (tgt := 102) dX9_readsClause_93 (by decide) (fun c_93 => ?_) (fun c_93 => ?_)
        · refine x_aload_n dX9_readsClause_102 rfl ?_
          refine x_bipush (v := 108) dX9_readsClause_103 (by decide) ?_
          refine x_bipush (v := 97) dX9_readsClause_105 (by decide) ?_
          refine x_bipush (v := 117) dX9_readsClause_107 (by decide) ?_
          refine x_bipush (v := 110) dX9_readsClause_109 (by decide) ?_
          refine x_bipush (v := 100) dX9_readsClause_111 (by decide) ?_
          refine x_bipush (v := 114) dX9_readsClause_113 (by decide) ?_
          refine x_bipush (v := 121) dX9_readsClause_115 (by decide) ?_
          refine s_callV dX9_readsClause_117 (k_mword σ (i := 7) hk (by decide)) rfl w_X9_isWord lmX9_87 im_X9_isWord se_X9_isWord rfl (rfl) rfl (Nat.le_of_ble_eq_true rfl) rfl (by decide) (fun v_117 σ_117 h_117 => ?_)
          obtain ⟨rfl, z_117⟩ := h_117
          have z_117 := z_117.symm
          subst z_117
          refine x_if_eq (tgt := 129) dX9_readsClause_120 (by decide) (fun c_120 => ?_) (fun c_120 => ?_)
          · refine x_aload_n dX9_readsClause_129 rfl ?_
            refine x_bipush (v := 115) dX9_readsClause_130 (by decide) ?_
            refine x_bipush (v := 108) dX9_readsClause_132 (by decide) ?_
            refine x_bipush (v := 111) dX9_readsClause_134 (by decide) ?_
            refine x_bipush (v := 112) dX9_readsClause_136 (by decide) ?_
            refine x_bipush (v := 101) dX9_readsClause_138 (by decide) ?_
            refine x_iconst (v := 0) dX9_readsClause_140 (by decide) ?_
            refine x_iconst (v := 0) dX9_readsClause_141 (by decide) ?_
            refine s_callV dX9_readsClause_142 (k_mword σ (i := 1) hk (by decide)) rfl w_X9_isWord lmX9_87 im_X9_isWord se_X9_isWord rfl (rfl) rfl (Nat.le_of_ble_eq_true rfl) rfl (by decide) (fun v_142 σ_142 h_142 => ?_)
            obtain ⟨rfl, z_142⟩ := h_142
            have z_142 := z_142.symm
            subst z_142
            refine x_if_eq (tgt := 153) dX9_readsClause_145 (by decide) (fun c_145 => ?_) (fun c_145 => ?_)
            · refine x_aload_n dX9_readsClause_153 rfl ?_
              refine x_bipush (v := 99) dX9_readsClause_154 (by decide) ?_
              refine x_bipush (v := 97) dX9_readsClause_156 (by decide) ?_
              refine x_bipush (v := 112) dX9_readsClause_158 (by decide) ?_
              refine x_iconst (v := 0) dX9_readsClause_160 (by decide) ?_
              refine x_iconst (v := 0) dX9_readsClause_161 (by decide) ?_
              refine x_iconst (v := 0) dX9_readsClause_162 (by decide) ?_
              refine x_iconst (v := 0) dX9_readsClause_163 (by decide) ?_
              refine s_callV dX9_readsClause_164 (k_mword σ (i := 2) hk (by decide)) rfl w_X9_isWord lmX9_87 im_X9_isWord se_X9_isWord rfl (rfl) rfl (Nat.le_of_ble_eq_true rfl) rfl (by decide) (fun v_164 σ_164 h_164 => ?_)
              obtain ⟨rfl, z_164⟩ := h_164
              have z_164 := z_164.symm
              subst z_164
              refine x_if_eq (tgt := 179) dX9_readsClause_167 (by decide) (fun c_167 => ?_) (fun c_167 => ?_)
              · refine x_aload_n dX9_readsClause_179 rfl ?_
                refine x_bipush (v := 105) dX9_readsClause_180 (by decide) ?_
                refine x_bipush (v := 110) dX9_readsClause_182 (by decide) ?_
                refine x_bipush (v := 99) dX9_readsClause_184 (by decide) ?_
                refine x_bipush (v := 104) dX9_readsClause_186 (by decide) ?_
                refine x_bipush (v := 101) dX9_readsClause_188 (by decide) ?_
                refine x_bipush (v := 115) dX9_readsClause_190 (by decide) ?_
                refine x_iconst (v := 0) dX9_readsClause_192 (by decide) ?_
                refine s_callV dX9_readsClause_193 (k_mword σ (i := 3) hk (by decide)) rfl w_X9_isWord lmX9_87 im_X9_isWord se_X9_isWord rfl (rfl) rfl (Nat.le_of_ble_eq_true rfl) rfl (by decide) (fun v_193 σ_193 h_193 => ?_)
                obtain ⟨rfl, z_193⟩ := h_193
                have z_193 := z_193.symm
                subst z_193
                refine x_if_eq (tgt := 214) dX9_readsClause_196 (by decide) (fun c_196 => ?_) (fun c_196 => ?_)
                · refine x_iconst (v := 0) dX9_readsClause_214 (by decide) ?_
                  exact s_zret dX9_readsClause_215 rfl (by first | exact Or.inl rfl | exact Or.inr rfl | assumption | exact bI_01 _) (by first
                    | exact c8 (nn c_15) (nn c_145) (nn c_167) (nn c_196) (nn c_41) (nn c_68) (nn c_93) (nn c_120)
                    | (have hx := n3 _ kn fn en (is c_196)
                       rw [show rdB len c (nxF len c s) (nI 1) (nI 20) (-1) = false from bI_0.mp c_207] at hx
                       exact hx)
                    | (have hx := n3 _ kn fn en (is c_196)
                       rw [show rdB len c (nxF len c s) (nI 1) (nI 20) (-1) = true from bI_n c_207] at hx
                       exact hx))
                · refine x_aload_n dX9_readsClause_199 rfl ?_
                  refine x_iconst (v := 2) dX9_readsClause_200 (by decide) ?_
                  refine x_iconst (v := 1) dX9_readsClause_201 (by decide) ?_
                  refine x_bipush (v := 20) dX9_readsClause_202 (by decide) ?_
                  refine s_callV dX9_readsClause_204 (k_number σ (e := tkE len c s) (p := 2) (lo := 1) (hi := 20) hk.1 (tkE_le hk.2.1) hk.2.2.2.1 (by decide) (by decide) (by decide)) rfl w_X9_number lmX9_84 im_X9_number se_X9_number rfl (rfl) rfl (Nat.le_of_ble_eq_true rfl) rfl (by decide) (fun v_204 σ_204 h_204 => ?_)
                  obtain ⟨rfl, kn, fn, en⟩ := h_204
                  refine x_if_eq (tgt := 214) dX9_readsClause_207 (by decide) (fun c_207 => ?_) (fun c_207 => ?_)
                  · refine x_iconst (v := 0) dX9_readsClause_214 (by decide) ?_
                    exact s_zret dX9_readsClause_215 rfl (by first | exact Or.inl rfl | exact Or.inr rfl | assumption | exact bI_01 _) (by first
                      | exact c8 (nn c_15) (nn c_145) (nn c_167) (nn c_196) (nn c_41) (nn c_68) (nn c_93) (nn c_120)
                      | (have hx := n3 _ kn fn en (is c_196)
                         rw [show rdB len c (nxF len c s) (nI 1) (nI 20) (-1) = false from bI_0.mp c_207] at hx
                         exact hx)
                      | (have hx := n3 _ kn fn en (is c_196)
                         rw [show rdB len c (nxF len c s) (nI 1) (nI 20) (-1) = true from bI_n c_207] at hx
                         exact hx))
                  · refine x_iconst (v := 1) dX9_readsClause_210 (by decide) ?_
                    refine x_goto (tgt := 215) dX9_readsClause_211 (by decide) ?_
                    exact s_zret dX9_readsClause_215 rfl (by first | exact Or.inl rfl | exact Or.inr rfl | assumption | exact bI_01 _) (by first
                      | exact c8 (nn c_15) (nn c_145) (nn c_167) (nn c_196) (nn c_41) (nn c_68) (nn c_93) (nn c_120)
                      | (have hx := n3 _ kn fn en (is c_196)
                         rw [show rdB len c (nxF len c s) (nI 1) (nI 20) (-1) = false from bI_0.mp c_207] at hx
                         exact hx)
                      | (have hx := n3 _ kn fn en (is c_196)
                         rw [show rdB len c (nxF len c s) (nI 1) (nI 20) (-1) = true from bI_n c_207] at hx
                         exact hx))
              · refine x_aload_n dX9_readsClause_170 rfl ?_
                refine x_iconst (v := 1) dX9_readsClause_171 (by decide) ?_
                refine x_iconst (v := 5) dX9_readsClause_172 (by decide) ?_
                refine x_bipush (v := 99) dX9_readsClause_173 (by decide) ?_
                refine s_callV dX9_readsClause_175 (k_number σ (e := tkE len c s) (p := 1) (lo := 5) (hi := 99) hk.1 (tkE_le hk.2.1) hk.2.2.2.1 (by decide) (by decide) (by decide)) rfl w_X9_number lmX9_84 im_X9_number se_X9_number rfl (rfl) rfl (Nat.le_of_ble_eq_true rfl) rfl (by decide) (fun v_175 σ_175 h_175 => ?_)
                obtain ⟨rfl, kn, fn, en⟩ := h_175
                exact s_zret dX9_readsClause_178 rfl (by first | exact Or.inl rfl | exact Or.inr rfl | assumption | exact bI_01 _) (n2 _ kn fn en (is c_167))
            · refine x_aload_n dX9_readsClause_148 rfl ?_
              refine s_callV dX9_readsClause_149 (k_readsSlope σ hk hd) rfl w_X9_readsSlope lmX9_94 im_X9_readsSlope se_X9_readsSlope rfl (rfl) rfl (Nat.le_of_ble_eq_true rfl) rfl (by decide) (fun v_149 σ_149 h_149 => ?_)
              have hm := h_149
              rw [← c1 (is c_145)] at hm
              obtain ⟨b, rfl⟩ := MCP_v hm
              exact s_zret dX9_readsClause_152 rfl (by first | exact Or.inl rfl | exact Or.inr rfl | assumption | exact bI_01 _) (hm)
          · refine x_aload_n dX9_readsClause_123 rfl ?_
            refine x_iconst (v := 3) dX9_readsClause_124 (by decide) ?_
            refine s_callV dX9_readsClause_125 (k_readsStreet σ (kd := 3) hk hd) rfl w_X9_readsStreet lmX9_91 im_X9_readsStreet se_X9_readsStreet rfl (rfl) rfl (Nat.le_of_ble_eq_true rfl) rfl (by decide) (fun v_125 σ_125 h_125 => ?_)
            have hm := h_125
            rw [← c7 (is c_120)] at hm
            obtain ⟨b, rfl⟩ := MCP_v hm
            exact s_zret dX9_readsClause_128 rfl (by first | exact Or.inl rfl | exact Or.inr rfl | assumption | exact bI_01 _) (hm)
        · refine x_aload_n dX9_readsClause_96 rfl ?_
          refine x_iconst (v := 2) dX9_readsClause_97 (by decide) ?_
          refine s_callV dX9_readsClause_98 (k_readsStreet σ (kd := 2) hk hd) rfl w_X9_readsStreet lmX9_91 im_X9_readsStreet se_X9_readsStreet rfl (rfl) rfl (Nat.le_of_ble_eq_true rfl) rfl (by decide) (fun v_98 σ_98 h_98 => ?_)
          have hm := h_98
          rw [← c6 (is c_93)] at hm
          obtain ⟨b, rfl⟩ := MCP_v hm
          exact s_zret dX9_readsClause_101 rfl (by first | exact Or.inl rfl | exact Or.inr rfl | assumption | exact bI_01 _) (hm)
      · refine x_aload_n dX9_readsClause_71 rfl ?_
        refine x_iconst (v := 1) dX9_readsClause_72 (by decide) ?_
        refine s_callV dX9_readsClause_73 (k_readsStreet σ (kd := 1) hk hd) rfl w_X9_readsStreet lmX9_91 im_X9_readsStreet se_X9_readsStreet rfl (rfl) rfl (Nat.le_of_ble_eq_true rfl) rfl (by decide) (fun v_73 σ_73 h_73 => ?_)
        have hm := h_73
        rw [← c5 (is c_68)] at hm
        obtain ⟨b, rfl⟩ := MCP_v hm
        exact s_zret dX9_readsClause_76 rfl (by first | exact Or.inl rfl | exact Or.inr rfl | assumption | exact bI_01 _) (hm)
    · refine x_aload_n dX9_readsClause_44 rfl ?_
      refine x_iconst (v := 0) dX9_readsClause_45 (by decide) ?_
      refine s_callV dX9_readsClause_46 (k_readsStreet σ (kd := 0) hk hd) rfl w_X9_readsStreet lmX9_91 im_X9_readsStreet se_X9_readsStreet rfl (rfl) rfl (Nat.le_of_ble_eq_true rfl) rfl (by decide) (fun v_46 σ_46 h_46 => ?_)
      have hm := h_46
      rw [← c4 (is c_41)] at hm
      obtain ⟨b, rfl⟩ := MCP_v hm
      exact s_zret dX9_readsClause_49 rfl (by first | exact Or.inl rfl | exact Or.inr rfl | assumption | exact bI_01 _) (hm)
  · refine x_aload_n dX9_readsClause_18 rfl ?_
    refine s_callV dX9_readsClause_19 (k_forgets σ) rfl w_X9_forgets lmX9_45 im_X9_forgets se_X9_forgets rfl (rfl) rfl (Nat.le_of_ble_eq_true rfl) rfl (by decide) (fun v_19 σ_19 h_19 => ?_)
    obtain ⟨rfl, W, w0, w1, w2, rfl⟩ := h_19
    refine x_iconst (v := 1) dX9_readsClause_22 (by decide) ?_
    exact s_zret dX9_readsClause_23 rfl (by first | exact Or.inl rfl | exact Or.inr rfl | assumption | exact bI_01 _) (tn W w0 w1 w2 (is c_15))
