/-! ===== forget, fault ===== -/
theorem Inv_rd {n : Nat} {σ σ1 σ2 : Sg} (h : Inv n σ) (h1 : FR σ σ1) (h11 : σ1 1 1 = σ 1 1) (h2 : F4 σ1 σ2) : Inv n σ2 := by
  obtain ⟨iT, iP, iO, iU, iK, iN, iB⟩ := h
  have lo : ∀ c, c ≠ 1 → ¬ (9 ≤ c ∧ c ≤ 14) → c ≠ 81 → c ≠ 84 → σ2 c = σ c := fun c a b d e => by rw [h2.2 c d e, h1 c a b]
  have h81 : ∀ i, ¬ (11 ≤ i ∧ i ≤ 14) → σ2 81 i = σ 81 i := fun i hi => by rw [h2.1 i hi, h1 81 (by decide) (by decide)]
  refine ⟨IvT_fr iT (by rw [h2.2 1 (by decide) (by decide)]; exact h11) (lo 2 (by decide) (by decide) (by decide) (by decide)) (h81 1 (by decide)) (lo 82 (by decide) (by decide) (by decide) (by decide)), IvP_fr iP (fun c a b => lo c (by omega) (by omega) (by omega) (by omega)) (lo 83 (by decide) (by decide) (by decide) (by decide)), ?_, IvU_fr iU (fun c a b => lo c (by omega) (by omega) (by omega) (by omega)) (h81 6 (by decide)) (lo 86 (by decide) (by decide) (by decide) (by decide)), IvK_fr iK (fun c a b => lo c (by omega) (by omega) (by omega) (by omega)) (lo 87 (by decide) (by decide) (by decide) (by decide)) (lo 88 (by decide) (by decide) (by decide) (by decide)), IvN_fr iN (fun c a b => lo c (by omega) (by omega) (by omega) (by omega)) (h81 10 (by decide)) (lo 89 (by decide) (by decide) (by decide) (by decide)), NB_fr iB (fun i hi => h81 i (by omega))⟩
  have em : moS n σ2 = moS n σ := by unfold moS; rw [lo 85 (by decide) (by decide) (by decide) (by decide)]
  unfold IvO
  rw [em, moC_fr (σ' := σ2) (σ := σ) (fun c a b => lo c (by omega) (by omega) (by omega) (by omega))]
  exact iO
theorem p_fault {n : Nat} {σ : Sg} (h : Inv n σ) : Pair YX8_fault YX9_fault [] σ := by
  obtain ⟨hn3, hn, hpl, hp⟩ := h.2.1
  obtain ⟨len, c, hT, hM⟩ := h.1
  have hn8 : n ≤ 8 := hp.1
  have ep : plP n σ 3 = plM n σ 83 := hpl
  have k1 := k_fault σ hT hn3 hn8
  rw [ep] at k1
  refine ⟨_, k1, fun v σ1 h1 => ?_⟩
  obtain ⟨hv, hF, h11⟩ := h1
  have k2 := k_mfault σ1 (len := len) (n := n) (c := c) ⟨by rw [hF 81 (by decide) (by decide)]; exact hM.1, hM.2.1, fun i hi => by rw [hF 82 (by decide) (by decide)]; exact hM.2.2 i hi⟩ (by rw [hF 83 (by decide) (by decide)]; exact hn) hn8
  rw [plM_fr (hF 83 (by decide) (by decide))] at k2
  refine ⟨_, ?_, _, k2, fun v2 σ2 h2 => ⟨h2.2, n, Inv_rd h hF h11 h2.1⟩⟩
  cases hr : rdA len c (plM n σ 83) with
  | inl f => rw [hr] at hv; exact hv.1
  | inr q => rw [hr] at hv; exact hv.1
theorem p_forget {n : Nat} {σ : Sg} (h : Inv n σ) : Pair YX8_forget YX9_forget [] σ := by
  obtain ⟨q, hq6, hq, hqm, hN⟩ := h.2.2.2.2.2.1
  refine ⟨_, k_forget σ, fun v σ1 h1 => ?_⟩
  obtain ⟨rfl, rfl⟩ := h1
  refine ⟨_, rfl, _, k_mforget _, fun v2 σ2 h2 => ?_⟩
  obtain ⟨rfl, rfl⟩ := h2
  refine ⟨by rw [hq]; exact congrArg (fun z => some (Value.int z)) hqm, n, ?_, ?_, h.2.2.1, ?_, ?_, ?_, ?_⟩
  · exact IvT_fr h.1 rfl rfl (by rw [sg_k _ _ _ (by decide), sg_n _ _ _ (by decide)]) rfl
  · exact IvP_fr h.2.1 (fun d a b => by rw [sg_n _ _ _ (by omega), sg_n _ _ _ (by omega)]) rfl
  · exact IvU_fr h.2.2.2.1 (fun d a b => by rw [sg_n _ _ _ (by omega), sg_n _ _ _ (by omega)]) (by rw [sg_k _ _ _ (by decide), sg_n _ _ _ (by decide)]) rfl
  · exact IvK_fr h.2.2.2.2.1 (fun d a b => by rw [sg_n _ _ _ (by omega), sg_n _ _ _ (by omega)]) rfl rfl
  · exact ⟨0, by decide, by rw [sg_n _ _ _ (by decide), sg_s]; rfl, by rw [sg_s]; rfl, fun i hi => by omega⟩
  · exact NB_fr h.2.2.2.2.2.2 (fun i hi => by rw [sg_k _ _ _ (by omega), sg_n _ _ _ (by decide)])
