/-! ===== month; the text's calls; what was seen ===== -/
theorem kk_of {k : Int32} (h : inq 4 k) : ∃ kk, kk ≤ 4 ∧ k = nI kk - 1 := by
  rcases h with rfl | ⟨j, hj, rfl⟩
  · exact ⟨0, by decide, by decide⟩
  · exact ⟨j + 1, by omega, (nI_pred j).symm⟩
theorem p_month {n : Nat} {σ : Sg} (h : Inv n σ) (w k : Int32) : Pair YX8_month YX9_month [.int w, .int k] σ := by
  obtain ⟨hn3, hn, hpl, hp⟩ := h.2.1
  obtain ⟨hmo, ho, _⟩ := h.2.2.1
  have hn8 : n ≤ 8 := hp.1
  by_cases hw : rgF 1 4 w = true
  · by_cases hk : inq 4 k
    · obtain ⟨D, h1, h2, rfl⟩ := rgF_t (a := 1) (b := 4) (by decide) (by decide) hw
      have hk0 := hk
      obtain ⟨kk, hkk, e⟩ := kk_of hk0
      by_cases h0 : n = 0
      · subst h0
        have k2 := k_mmonth_z σ hn h1 h2 hkk
        rw [← e] at k2
        exact Pair_same h (k_month_z σ hn3 h1 h2 k hk) k2
      · have hn1 : 1 ≤ n := by omega
        have key : ∀ r : Int32, r = mmV (plM n σ 83) (moS n σ) D kk → Cm 12 YX8_month [.ref 0, .int (nI D), .int k] σ (fun v σ' => v = some (.int r) ∧ frQ σ σ') → Pair YX8_month YX9_month [.int (nI D), .int k] σ := fun r hr k1 => Pair_ask h k1 (fun σ1 _ a b c d => by
          have k2 := k_mmonth σ1 (n := n) (D := D) (kk := kk) a (by rw [b]; exact hp) (by rw [c]; exact ho) hn1 h1 h2 hkk
          rw [b, c, ← e, ← hr] at k2
          exact k2)
        obtain ⟨m1, m2⟩ := mr_gm (p := plM n σ 83) (o := moS n σ) (D := D) hn8 hn1 (tr D (σ 65))
        rcases hk with rfl | ⟨j, hj, rfl⟩
        · have hkz : kk = 0 := (kk_facts hkk h2).2.1.mp e.symm
          have k1 := k_month_m σ (n := n) (D := D) hn3 hn8 hn1 h1 h2
          rw [hpl, hmo] at k1
          exact key _ (by rw [m1]; unfold mmV; rw [if_pos hkz]) k1
        · have hkj : kk = j + 1 := by
            rcases Nat.eq_zero_or_pos kk with z | z
            · rw [z] at e
              exact absurd e (by have : ∀ j, j < 4 → ¬ nI j = nI 0 - 1 := by decide
                                 exact this j hj)
            · obtain ⟨m, rfl⟩ : ∃ m, kk = m + 1 := ⟨kk - 1, by omega⟩
              rw [nI_pred] at e
              have := (nI_eq (a := j) (b := m) (by omega) (by omega)).mp e
              omega
          by_cases hjD : j < D
          · have k1 := k_month_k σ (n := n) (D := D) hn3 hn8 hn1 h1 h2 hjD
            rw [hpl, hmo] at k1
            refine key _ ?_ k1
            rw [m2]
            unfold mmV
            rw [if_neg (by omega), if_neg (by omega), show kk - 1 = j by omega]
          · have k1 := k_month_l σ (n := n) (D := D) hn3 hn8 h1 h2 hj (by omega)
            refine ⟨_, k1, fun v σ1 hv => ?_⟩
            obtain ⟨rfl, rfl⟩ := hv
            have k2 := k_mmonth σ1 (n := n) (D := D) (kk := kk) hn hp ho hn1 h1 h2 hkk
            rw [← e] at k2
            refine ⟨_, rfl, _, k2, fun v2 σ2 hv2 => ?_⟩
            obtain ⟨rfl, hm⟩ := hv2
            refine ⟨?_, n, Inv_ask h (frQ_rf _) hm⟩
            unfold mmV
            rw [if_neg (by omega), if_pos (by omega)]
    · exact Pair_same h (k_month_o σ w k (Or.inr hk)) (k_mmonth_o σ w k (Or.inr hk))
  · exact Pair_same h (k_month_o σ w k (Or.inl (rg_no hw))) (k_mmonth_o σ w k (Or.inl (rg_no hw)))
theorem p_erase {n : Nat} {σ : Sg} (h : Inv n σ) : Pair YX8_erase YX9_erase [] σ := by
  obtain ⟨len, c, hT, hM⟩ := h.1
  refine ⟨_, k_erase σ, fun v σ1 h1 => ?_⟩
  obtain ⟨rfl, rfl⟩ := h1
  refine ⟨_, rfl, _, k_merase _, fun v2 σ2 h2 => ?_⟩
  obtain ⟨rfl, rfl⟩ := h2
  refine ⟨by rw [hT.1]; exact congrArg (fun z => some (Value.int z)) hM.1, n, ?_, ?_, ?_, ?_, ?_, ?_, ?_⟩
  · exact ⟨0, c, ⟨by rw [sg_n _ _ _ (by decide), sg_s]; rfl, Nat.zero_le _, fun i hi => by omega⟩, ⟨by rw [sg_s]; rfl, Nat.zero_le _, fun i hi => by omega⟩⟩
  · exact IvP_fr h.2.1 (fun d a b => by rw [sg_n _ _ _ (by omega), sg_n _ _ _ (by omega)]) (by rw [sg_n _ _ _ (by decide), sg_n _ _ _ (by decide)])
  · exact h.2.2.1
  · exact IvU_fr h.2.2.2.1 (fun d a b => by rw [sg_n _ _ _ (by omega), sg_n _ _ _ (by omega)]) (by rw [sg_k _ _ _ (by decide), sg_n _ _ _ (by decide)]) (by rw [sg_n _ _ _ (by decide), sg_n _ _ _ (by decide)])
  · exact IvK_fr h.2.2.2.2.1 (fun d a b => by rw [sg_n _ _ _ (by omega), sg_n _ _ _ (by omega)]) (by rw [sg_n _ _ _ (by decide), sg_n _ _ _ (by decide)]) (by rw [sg_n _ _ _ (by decide), sg_n _ _ _ (by decide)])
  · exact IvN_fr h.2.2.2.2.2.1 (fun d a b => by rw [sg_n _ _ _ (by omega), sg_n _ _ _ (by omega)]) (by rw [sg_k _ _ _ (by decide), sg_n _ _ _ (by decide)]) (by rw [sg_n _ _ _ (by decide), sg_n _ _ _ (by decide)])
  · exact NB_fr h.2.2.2.2.2.2 (fun i hi => by rw [sg_k _ _ _ (by omega), sg_n _ _ _ (by decide)])
