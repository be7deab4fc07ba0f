/-! ===== keep ===== -/
theorem inb2_rg (s : Int32) : inb 2 s = rgF 0 1 s := (inb_rg (n := 2) (by decide) s).symm
theorem moM_of {n c o : Nat} {σ σ' : Sg} (hn8 : n ≤ 8) (h : ∀ i, i < 18 → σ' c (o + i) = σ 85 i) : moM n σ' c o = moS n σ := by
  unfold moM moS
  rw [tr_ext (f := fun i => σ' c (o + i)) (g := σ 85) (fun i hi => h i (by omega)), tr_ext (f := fun i => σ' c (o + (8 + i))) (g := fun i => σ 85 (8 + i)) (fun i hi => h (8 + i) (by omega)), h 17 (by decide), h 16 (by decide)]
theorem p_keep {n : Nat} {σ : Sg} (h : Inv n σ) (s : Int32) : Pair YX8_keep YX9_keep [.int s] σ := by
  obtain ⟨hn3, hn, hpl, hp⟩ := h.2.1
  obtain ⟨hmo, ho, hday⟩ := h.2.2.1
  have hn8 : n ≤ 8 := hp.1
  by_cases hs : inb 2 s = true
  · obtain ⟨a, ha, rfl⟩ := inb_t (by omega) hs
    refine ⟨_, k_keep σ ha, fun v σ1 h1 => ?_⟩
    obtain ⟨rfl, g1, g2, g3⟩ := h1
    have lo1 : ∀ c, c < 49 ∨ 56 ≤ c → σ1 c = σ c := fun c hc => g3 c (by omega) (by omega) (by omega) (by omega)
    refine ⟨_, rfl, _, k_mkeep σ1 ha, fun v2 σ2 h2 => ?_⟩
    obtain ⟨rfl, W, w1, w2, rfl⟩ := h2
    have e85 : σ1 85 = σ 85 := lo1 85 (by omega)
    have ed : σ 85 16 = σ 15 3 := (congrArg (fun z : MO => z.2.2.2) hmo).symm
    have lo : ∀ c, c < 49 ∨ 56 ≤ c → c ≠ 87 → c ≠ 88 → sg (sw σ1 87 W) 88 a 1 c = σ c := fun c hc b d => by rw [sg_n _ _ _ d, sw_n _ _ b]; exact lo1 c hc
    refine ⟨by rw [e85, ed], n, IvT_fr h.1 (by rw [lo 1 (by omega) (by omega) (by omega)]) (lo 2 (by omega) (by omega) (by omega)) (by rw [lo 81 (by omega) (by omega) (by omega)]) (lo 82 (by omega) (by omega) (by omega)), IvP_fr h.2.1 (fun d x y => lo d (by omega) (by omega) (by omega)) (lo 83 (by omega) (by omega) (by omega)), ?_, IvU_fr h.2.2.2.1 (fun d x y => lo d (by omega) (by omega) (by omega)) (by rw [lo 81 (by omega) (by omega) (by omega)]) (lo 86 (by omega) (by omega) (by omega)), ?_, IvN_fr h.2.2.2.2.2.1 (fun d x y => lo d (by omega) (by omega) (by omega)) (by rw [lo 81 (by omega) (by omega) (by omega)]) (lo 89 (by omega) (by omega) (by omega)), NB_fr h.2.2.2.2.2.2 (fun i hi => by rw [lo 81 (by omega) (by omega) (by omega)])⟩
    · have em : moS n (sg (sw σ1 87 W) 88 a 1) = moS n σ := by unfold moS; rw [lo 85 (by omega) (by omega) (by omega)]
      unfold IvO
      rw [em, moC_fr (σ := σ) (fun c x y => lo c (by omega) (by omega) (by omega))]
      exact h.2.2.1
    · intro k hk
      have e49 : sg (sw σ1 87 W) 88 a 1 49 = upd (σ 49) a 1 := by rw [sg_n _ _ _ (by decide), sw_n _ _ (by decide)]; exact g1
      have e88 : sg (sw σ1 87 W) 88 a 1 88 = upd (σ 88) a 1 := by rw [sg_row, sw_n _ _ (by decide), lo1 88 (by omega)]
      rw [e49, e88]
      by_cases e : k = a
      · subst e
        have em : moM n (sg (sw σ1 87 W) 88 k 1) 87 (18 * k) = moS n σ := moM_of hn8 (fun i hi => by rw [sg_n _ _ _ (by decide), sw_s, w1 i hi, e85])
        refine Or.inr ⟨by unfold upd; rw [if_pos rfl]; decide, by unfold upd; rw [if_pos rfl]; decide, ?_, ?_⟩
        · rw [em, ← hmo, ← g2 n hn8]
          exact moC_fr (fun c x y => by rw [sg_n _ _ _ (by omega), sw_n _ _ (by omega)])
        · rw [em]; exact ⟨ho, hday⟩
      · have em : moM n (sg (sw σ1 87 W) 88 a 1) 87 (18 * k) = moM n σ 87 (18 * k) := by
          have q : ∀ i, i < 18 → sg (sw σ1 87 W) 88 a 1 87 (18 * k + i) = σ 87 (18 * k + i) := fun i hi => by rw [sg_n _ _ _ (by decide), sw_s, w2 _ (by omega), lo1 87 (by omega)]
          unfold moM
          rw [tr_ext (fun i hi => q i (by omega)), tr_ext (f := fun i => sg (sw σ1 87 W) 88 a 1 87 (18 * k + (8 + i))) (fun i hi => q (8 + i) (by omega)), q 17 (by decide), q 16 (by decide)]
        rw [em, moC_fr (σ' := sg (sw σ1 87 W) 88 a 1) (σ := σ) (fun c x y => by rw [sg_n _ _ _ (by omega), sw_n _ _ (by omega)]; exact g3 c (by omega) (by omega) (by omega) (by omega))]
        unfold upd
        rw [if_neg e, if_neg e]
        exact h.2.2.2.2.1 k hk
  · exact Pair_same h (k_keep_u σ s (inb_no hs)) (k_mkeep_o σ s (by rw [← inb2_rg]; exact inb_no hs))
