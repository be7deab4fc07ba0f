/-! ===== RainBallotModel's text: slope, a clause ===== -/
theorem va_le {len : Nat} {c : Nat → Nat} {s : Nat} : vaF len c s ≤ 100 := by
  unfold vaF
  split
  · rename_i h
    unfold muF
    split
    · rename_i h2
      exact Nat.le_trans (nuF_2 h2 (fun j hj => (tkE_dg h).2 (s + j) (by omega) (by omega))) (by decide)
    · exact Nat.le_refl _
  · exact Nat.zero_le _
theorem rd_sl {len n : Nat} {c : Nat → Nat} {s : Nat} {but : Int32} (hn8 : n ≤ 8) : rdB len c s 0 (nI n - 1) but = true ↔ soF len c s = 2 ∧ vaF len c s < n ∧ ¬ nI (vaF len c s) = but := by
  have hlt : ∀ v : Nat, v ≤ 100 → (¬ nI n - 1 < nI v ↔ v < n) := fun v hv => by
    have h : ∀ n, n < 9 → (nI n - 1).toInt = (n : Int) - 1 := by decide
    rw [Int32.lt_iff_toInt_lt, h n (by omega), nI_toInt (by omega)]
    omega
  unfold rdB
  rw [Bool.and_eq_true, Bool.and_eq_true, decide_eq_true_iff, so_2]
  unfold okN
  rw [decide_eq_true_iff]
  constructor
  · intro ⟨h1, h2, h3⟩
    have e : vaF len c s = nuF c s (tkE len c s - s) := by unfold vaF muF; rw [if_pos h1, if_pos h2]
    have hle := va_le (len := len) (c := c) (s := s)
    rw [← e] at h3
    exact ⟨h1, (hlt _ hle).mp h3.2.1, h3.2.2⟩
  · intro ⟨h1, h2, h3⟩
    have hk : tkE len c s - s ≤ 2 := by
      rcases Nat.lt_or_ge 2 (tkE len c s - s) with q | q
      · have e : vaF len c s = 100 := by unfold vaF muF; rw [if_pos h1, if_neg (by omega)]
        omega
      · exact q
    have e : vaF len c s = nuF c s (tkE len c s - s) := by unfold vaF muF; rw [if_pos h1, if_pos hk]
    have hle := va_le (len := len) (c := c) (s := s)
    rw [← e]
    exact ⟨h1, hk, nI_pos (by omega), (hlt _ hle).mpr h2, h3⟩
set_option maxRecDepth 100000 in
set_option maxHeartbeats 1000000 in
theorem k_readsSlope (σ : Sg) {len s : Nat} {c : Nat → Nat} {p : PL} (hk : TK len c σ s) (hd : DP σ p) : Cm 4 YX9_readsSlope [.ref 81] σ (fun v σ' => MCP len c σ σ' v (slF len c p s)) := by
  refine Cm_of (by decide +kernel) (Nat.le_of_ble_eq_true rfl) ?_
  obtain ⟨n, p2⟩ := p
  obtain ⟨h0, hn8, hpl⟩ := hd
  have h0 : σ 84 0 = nI n := h0
  have hn8 : n ≤ 8 := hn8
  have hp := hpl
  generalize hP : ((n, p2) : PL) = P at hp ⊢
  have hP1 : P.1 = n := by rw [← hP]
  have a1 := va_le (len := len) (c := c) (s := nxF len c s)
  have a2 := va_le (len := len) (c := c) (s := nxF len c (nxF len c s))
  have lt : ∀ a, a ≤ 100 → (nI a < nI n ↔ a < n) := fun a ha => nI_ltI (by omega) (by omega)
  have f1 : ∀ σ', ¬ rdB len c (nxF len c s) 0 (nI n - 1) (-1) = true → F4 σ σ' → σ' 81 13 = nI (nxF len c s) → MCP len c σ σ' (some (.int 0)) (slF len c P s) := fun σ' h hf h13 => by
    unfold slF
    rw [hP1, if_pos (by simpa using h)]
    exact ⟨hf, rfl, h13⟩
  have f2 : ∀ σ', rdB len c (nxF len c s) 0 (nI n - 1) (-1) = true → ¬ rdB len c (nxF len c (nxF len c s)) 0 (nI n - 1) (nI (rdV len c (nxF len c s))) = true → F4 σ σ' → σ' 81 13 = nI (nxF len c (nxF len c s)) → MCP len c σ σ' (some (.int 0)) (slF len c P s) := fun σ' h h2 hf h13 => by
    unfold slF
    rw [hP1, if_neg (by rw [h]; decide), if_pos (by simpa using h2)]
    exact ⟨hf, rfl, h13⟩
  have ok1 : soF len c (nxF len c s) = 2 → vaF len c (nxF len c s) < n → rdB len c (nxF len c s) 0 (nI n - 1) (-1) = true := fun h1 h2 => (rd_sl hn8).mpr ⟨h1, h2, fun z => by have := nI_pos' (n := vaF len c (nxF len c s)) (by omega); rw [z] at this; exact absurd this (by decide)⟩
  refine x_aload_n dX9_readsSlope_0 rfl ?_
  refine s_callV dX9_readsSlope_1 (k_token σ (e := tkE len c s) hk.1 (tkE_le hk.2.1) hk.2.2.2.1) rfl w_X9_token lmX9_81 im_X9_token se_X9_token rfl (rfl) rfl (Nat.le_of_ble_eq_true rfl) rfl (by decide) (fun v_1 σ_1 h_1 => ?_)
  obtain ⟨rfl, k1, g1⟩ := h_1
  refine x_aload_n dX9_readsSlope_4 rfl ?_
  refine s_geti (ci := 9) (k := 14) (N := 20) (C := RX9) (T := TX9) dX9_readsSlope_5 lfX9_78 inX9 rfl (by decide) (rfl) rfl ?_
  rw [k1.2.2.2.2.2]
  refine x_istore_n dX9_readsSlope_8 (Nat.le_of_ble_eq_true rfl) rfl ?_
  refine x_aload_n dX9_readsSlope_9 rfl ?_
  refine s_geti (ci := 9) (k := 12) (N := 20) (C := RX9) (T := TX9) dX9_readsSlope_10 lfX9_75 inX9 rfl (by decide) (rfl) rfl ?_
  refine x_iconst (v := 2) dX9_readsSlope_13 (by decide) ?_
  rw [k1.2.2.2.2.1]
  refine x_icmp_ne (tgt := 27) dX9_readsSlope_14 (by decide) (fun c_14 => ?_) (fun c_14 => ?_)
  · refine x_iconst (v := 0) dX9_readsSlope_27 (by decide) ?_
    exact s_zret dX9_readsSlope_28 rfl (by first | exact Or.inl rfl | exact Or.inr rfl | assumption | exact bI_01 _) (by first
      | exact f1 _ (fun z => c_14 ((rd_sl hn8).mp z).1) g1.f4 k1.2.2.1
      | exact f1 _ (fun z => c_24 ((lt _ a1).mpr ((rd_sl hn8).mp z).2.1)) g1.f4 k1.2.2.1)
  · refine x_iload_n dX9_readsSlope_17 rfl ?_
    refine x_aload_n dX9_readsSlope_18 rfl ?_
    refine s_getr (ci := 9) (k := 3) (N := 20) (C := RX9) (T := TX9) dX9_readsSlope_19 lfX9_16 inX9 rfl (by decide) (rfl) rfl ?_
    refine x_iconst (v := 0) dX9_readsSlope_22 (by decide) ?_
    refine s_iald dX9_readsSlope_23 (rfl) (j := 0) (hi := by decide) (hj := by first | omega | (have := (lt _ a1).mp (by first | exact c_24 | exact Int32.not_le.mp c_24); omega)) (hn := by decide) ?_
    rw [show σ_1 84 0 = nI n by rw [g1.2 84 (by decide)]; exact h0]
    refine x_icmp_lt (tgt := 29) dX9_readsSlope_24 (by decide) (fun c_24 => ?_) (fun c_24 => ?_)
    · refine x_aload_n dX9_readsSlope_29 rfl ?_
      refine s_callV dX9_readsSlope_30 (k_token σ_1 (e := tkE len c (nxF len c s)) k1.1 (tkE_le k1.2.1) k1.2.2.2.1) rfl w_X9_token lmX9_81 im_X9_token se_X9_token rfl (rfl) rfl (Nat.le_of_ble_eq_true rfl) rfl (by decide) (fun v_30 σ_30 h_30 => ?_)
      obtain ⟨rfl, k2, g2⟩ := h_30
      refine x_aload_n dX9_readsSlope_33 rfl ?_
      refine s_geti (ci := 9) (k := 12) (N := 20) (C := RX9) (T := TX9) dX9_readsSlope_34 lfX9_75 inX9 rfl (by decide) (rfl) rfl ?_
      refine x_iconst (v := 2) dX9_readsSlope_37 (by decide) ?_
      rw [k2.2.2.2.2.1]
      refine x_icmp_ne (tgt := 62) dX9_readsSlope_38 (by decide) (fun c_38 => ?_) (fun c_38 => ?_)
      · refine x_iconst (v := 0) dX9_readsSlope_62 (by decide) ?_
        exact s_zret dX9_readsSlope_63 rfl (by first | exact Or.inl rfl | exact Or.inr rfl | assumption | exact bI_01 _) (by
          have r1 := ok1 c_14 ((lt _ a1).mp c_24)
          have v1 := va_rd r1
          first
            | exact f2 _ r1 (fun z => c_38 ((rd_sl hn8).mp z).1) (g1.f4.tr g2.f4) k2.2.2.1
            | exact f2 _ r1 (fun z => absurd c_51 (nI_ge ((rd_sl hn8).mp z).2.1 (by omega))) (g1.f4.tr g2.f4) k2.2.2.1
            | exact f2 _ r1 (fun z => ((rd_sl hn8).mp z).2.2 (by rw [← v1]; exact c_59)) (g1.f4.tr g2.f4) k2.2.2.1)
      · refine x_aload_n dX9_readsSlope_41 rfl ?_
        refine s_geti (ci := 9) (k := 14) (N := 20) (C := RX9) (T := TX9) dX9_readsSlope_42 lfX9_78 inX9 rfl (by decide) (rfl) rfl ?_
        refine x_aload_n dX9_readsSlope_45 rfl ?_
        refine s_getr (ci := 9) (k := 3) (N := 20) (C := RX9) (T := TX9) dX9_readsSlope_46 lfX9_16 inX9 rfl (by decide) (rfl) rfl ?_
        refine x_iconst (v := 0) dX9_readsSlope_49 (by decide) ?_
        refine s_iald dX9_readsSlope_50 (rfl) (j := 0) (hi := by decide) (hj := by first | omega | (have := (lt _ a1).mp (by first | exact c_24 | exact Int32.not_le.mp c_24); omega)) (hn := by decide) ?_
        rw [k2.2.2.2.2.2, show σ_30 84 0 = nI n by rw [g2.2 84 (by decide), g1.2 84 (by decide)]; exact h0]
        refine x_icmp_ge (tgt := 62) dX9_readsSlope_51 (by decide) (fun c_51 => ?_) (fun c_51 => ?_)
        · refine x_iconst (v := 0) dX9_readsSlope_62 (by decide) ?_
          exact s_zret dX9_readsSlope_63 rfl (by first | exact Or.inl rfl | exact Or.inr rfl | assumption | exact bI_01 _) (by
            have r1 := ok1 c_14 ((lt _ a1).mp c_24)
            have v1 := va_rd r1
            first
              | exact f2 _ r1 (fun z => c_38 ((rd_sl hn8).mp z).1) (g1.f4.tr g2.f4) k2.2.2.1
              | exact f2 _ r1 (fun z => absurd c_51 (nI_ge ((rd_sl hn8).mp z).2.1 (by omega))) (g1.f4.tr g2.f4) k2.2.2.1
              | exact f2 _ r1 (fun z => ((rd_sl hn8).mp z).2.2 (by rw [← v1]; exact c_59)) (g1.f4.tr g2.f4) k2.2.2.1)
        · refine x_aload_n dX9_readsSlope_54 rfl ?_
          refine s_geti (ci := 9) (k := 14) (N := 20) (C := RX9) (T := TX9) dX9_readsSlope_55 lfX9_78 inX9 rfl (by decide) (rfl) rfl ?_
          refine x_iload_n dX9_readsSlope_58 rfl ?_
          rw [k2.2.2.2.2.2]
          refine x_icmp_ne (tgt := 64) dX9_readsSlope_59 (by decide) (fun c_59 => ?_) (fun c_59 => ?_)
          · refine x_aload_n dX9_readsSlope_64 rfl ?_
            refine s_getr (ci := 9) (k := 3) (N := 20) (C := RX9) (T := TX9) dX9_readsSlope_65 lfX9_16 inX9 rfl (by decide) (rfl) rfl ?_
            refine x_bipush (v := 35) dX9_readsSlope_68 (by decide) ?_
            refine x_iload_n dX9_readsSlope_70 rfl ?_
            refine x_iadd dX9_readsSlope_71 ?_
            refine x_aload_n dX9_readsSlope_72 rfl ?_
            refine s_geti (ci := 9) (k := 14) (N := 20) (C := RX9) (T := TX9) dX9_readsSlope_73 lfX9_78 inX9 rfl (by decide) (rfl) rfl ?_
            rw [k2.2.2.2.2.2]
            refine s_iast dX9_readsSlope_76 (rfl) (hi := nI_add 35 (vaF len c (nxF len c s))) (hj := by first | omega | (have := (lt _ a1).mp (by first | exact c_24 | exact Int32.not_le.mp c_24); omega)) (hn := by decide) ?_
            refine xname (fun σ_76 e_76 => ?_)
            refine x_iconst (v := 1) dX9_readsSlope_77 (by decide) ?_
            refine s_zret dX9_readsSlope_78 rfl (by first | exact Or.inl rfl | exact Or.inr rfl | assumption | exact bI_01 _) ?_
            have l1 := (lt _ a1).mp c_24
            have r1 := ok1 c_14 l1
            have v1 := va_rd r1
            have l2 : vaF len c (nxF len c (nxF len c s)) < n := (lt _ a2).mp (Int32.not_le.mp c_51)
            have r2 : rdB len c (nxF len c (nxF len c s)) 0 (nI n - 1) (nI (rdV len c (nxF len c s))) = true := (rd_sl hn8).mpr ⟨c_38, l2, fun z => c_59 (z.trans (congrArg nI v1.symm))⟩
            have v2 := va_rd r2
            unfold slF
            rw [hP1, if_neg (by rw [r1]; decide), if_neg (by rw [r2]; decide), ← v1, ← v2]
            have e84 : σ_30 84 = σ 84 := by rw [g2.2 84 (by decide), g1.2 84 (by decide)]
            refine TK.mc (by rw [e_76]; exact TK_84 k2 _) ((g1.f4.tr g2.f4).tr (by rw [e_76]; exact F4_84 _)) ⟨?_, by show P.1 ≤ 8; omega, ?_⟩
            · show _ = nI P.1
              rw [hP1, e_76, sg_k _ _ _ (by omega), e84]; exact h0
            · show plM P.1 σ_76 84 = _
              have k3 : ∀ i, i ≠ 35 + vaF len c (nxF len c s) → σ_76 84 i = σ 84 i := fun i hi => by rw [e_76, sg_k _ _ _ hi, e84]
              have t3 : tr n (fun i => σ_76 84 (3 + i)) = tr n (fun i => σ 84 (3 + i)) := tr_ext fun i hi => k3 (3 + i) (by omega)
              have t4 : tr n (fun i => σ_76 84 (11 + i)) = tr n (fun i => σ 84 (11 + i)) := tr_ext fun i hi => k3 (11 + i) (by omega)
              have t5 : tr n (fun i => σ_76 84 (19 + i)) = tr n (fun i => σ 84 (19 + i)) := tr_ext fun i hi => k3 (19 + i) (by omega)
              have t6 : tr n (fun i => σ_76 84 (27 + i)) = tr n (fun i => σ 84 (27 + i)) := tr_ext fun i hi => k3 (27 + i) (by omega)
              have t7 : tr n (fun i => σ_76 84 (35 + i)) = upd (tr n (fun i => σ 84 (35 + i))) (vaF len c (nxF len c s)) (nI (vaF len c (nxF len c (nxF len c s)))) := ?_
              · rw [← hp, hP1]
                show (n, σ_76 84 1, σ_76 84 2, tr n (fun i => σ_76 84 (3 + i)), tr n (fun i => σ_76 84 (11 + i)), tr n (fun i => σ_76 84 (19 + i)), tr n (fun i => σ_76 84 (27 + i)), tr n (fun i => σ_76 84 (35 + i))) = (n, σ 84 1, σ 84 2, tr n (fun i => σ 84 (3 + i)), tr n (fun i => σ 84 (11 + i)), tr n (fun i => σ 84 (19 + i)), tr n (fun i => σ 84 (27 + i)), upd (tr n (fun i => σ 84 (35 + i))) (vaF len c (nxF len c s)) (nI (vaF len c (nxF len c (nxF len c s)))))
                rw [k3 1 (by omega), k3 2 (by omega), t3, t4, t5, t6, t7]
              rw [← tr_upd l1]
              refine tr_ext fun i hi => ?_
              unfold upd
              by_cases e : i = vaF len c (nxF len c s)
              · rw [if_pos e, e, e_76, sg_s]
                rfl
              · rw [if_neg e]; exact k3 _ (by omega)
          · refine x_iconst (v := 0) dX9_readsSlope_62 (by decide) ?_
            exact s_zret dX9_readsSlope_63 rfl (by first | exact Or.inl rfl | exact Or.inr rfl | assumption | exact bI_01 _) (by
              have r1 := ok1 c_14 ((lt _ a1).mp c_24)
              have v1 := va_rd r1
              first
                | exact f2 _ r1 (fun z => c_38 ((rd_sl hn8).mp z).1) (g1.f4.tr g2.f4) k2.2.2.1
                | exact f2 _ r1 (fun z => absurd c_51 (nI_ge ((rd_sl hn8).mp z).2.1 (by omega))) (g1.f4.tr g2.f4) k2.2.2.1
                | exact f2 _ r1 (fun z => ((rd_sl hn8).mp z).2.2 (by rw [← v1]; exact c_59)) (g1.f4.tr g2.f4) k2.2.2.1)
    · refine x_iconst (v := 0) dX9_readsSlope_27 (by decide) ?_
      exact s_zret dX9_readsSlope_28 rfl (by first | exact Or.inl rfl | exact Or.inr rfl | assumption | exact bI_01 _) (by first
        | exact f1 _ (fun z => c_14 ((rd_sl hn8).mp z).1) g1.f4 k1.2.2.1
        | exact f1 _ (fun z => c_24 ((lt _ a1).mpr ((rd_sl hn8).mp z).2.1)) g1.f4 k1.2.2.1)
