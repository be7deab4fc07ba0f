/-! ===== each call, on both: alike, and what holds between them is kept ===== -/
def Pair (Y Y2 : xY) (As : List Value) (σ : Sg) : Prop := ∃ P, Cm 12 Y (.ref 0 :: As) σ P ∧ ∀ v σ1, P v σ1 → ∃ r, v = some (.int r) ∧ ∃ P2, Cm 12 Y2 (.ref 81 :: As) σ1 P2 ∧ ∀ v2 σ2, P2 v2 σ2 → v2 = some (.int r) ∧ ∃ n, Inv n σ2
theorem Pair_same {Y Y2 : xY} {As : List Value} {n : Nat} {σ : Sg} {r : Int32} (h : Inv n σ) (k1 : Cm 12 Y (.ref 0 :: As) σ (fun v σ' => v = some (.int r) ∧ σ' = σ)) (k2 : Cm 12 Y2 (.ref 81 :: As) σ (fun v σ' => v = some (.int r) ∧ σ' = σ)) : Pair Y Y2 As σ :=
  ⟨_, k1, fun v σ1 h1 => by
    obtain ⟨rfl, rfl⟩ := h1
    exact ⟨r, rfl, _, k2, fun v2 σ2 h2 => by obtain ⟨rfl, rfl⟩ := h2; exact ⟨rfl, n, h⟩⟩⟩
theorem Pair_ask {Y Y2 : xY} {As : List Value} {n : Nat} {σ : Sg} {r : Int32} (h : Inv n σ) (k1 : Cm 12 Y (.ref 0 :: As) σ (fun v σ' => v = some (.int r) ∧ frQ σ σ')) (k2 : ∀ σ1, frQ σ σ1 → σ1 83 0 = nI n → plM n σ1 83 = plM n σ 83 → moS n σ1 = moS n σ → NB σ1 → Cm 12 Y2 (.ref 81 :: As) σ1 (fun v σ' => v = some (.int r) ∧ fM σ1 σ')) : Pair Y Y2 As σ :=
  ⟨_, k1, fun v σ1 h1 => by
    obtain ⟨rfl, hf⟩ := h1
    have e81 : σ1 81 = σ 81 := hf 81 (by omega)
    have e83 : σ1 83 = σ 83 := hf 83 (by omega)
    have e85 : σ1 85 = σ 85 := hf 85 (by omega)
    refine ⟨r, rfl, _, k2 σ1 hf (by rw [e83]; exact h.2.1.2.1) (plM_fr e83) (by unfold moS; rw [e85]) (by unfold NB; rw [e81]; exact h.2.2.2.2.2.2), fun v2 σ2 h2 => ?_⟩
    obtain ⟨rfl, hm⟩ := h2
    exact ⟨rfl, n, Inv_ask h hf hm⟩⟩
theorem inb_no {n : Nat} {s : Int32} (h : ¬ inb n s = true) : inb n s = false := by simpa using h
theorem rg_no {a b x : Int32} (h : ¬ rgF a b x = true) : rgF a b x = false := by simpa using h
theorem p_where {n : Nat} {σ : Sg} (h : Inv n σ) (w : Int32) : Pair YX8_where YX9_where [.int w] σ := by
  obtain ⟨hn3, hn, hpl, hp⟩ := h.2.1
  obtain ⟨hmo, ho, _⟩ := h.2.2.1
  have hn8 : n ≤ 8 := hp.1
  by_cases hw : rgF 1 30 w = true
  · obtain ⟨N, h1, h2, rfl⟩ := rgF_t (a := 1) (b := 30) (by decide) (by decide) hw
    have k1 := k_where σ (n := n) (N := N) hn3 hn8 h1 h2
    rw [hpl, hmo] at k1
    exact Pair_ask h k1 (fun σ1 _ a b c d => by
      have k2 := k_mwhere σ1 (n := n) (N := N) a (by rw [b]; exact hp) (by rw [c]; exact ho) d h1 h2
      rw [b, c] at k2
      exact k2)
  · exact Pair_same h (k_where_o σ w (rg_no hw)) (k_mwhere_o σ w (rg_no hw))
theorem p_wet {n : Nat} {σ : Sg} (h : Inv n σ) (s w : Int32) : Pair YX8_wet YX9_wet [.int s, .int w] σ := by
  obtain ⟨hn3, hn, hpl, hp⟩ := h.2.1
  obtain ⟨hmo, ho, _⟩ := h.2.2.1
  have hn8 : n ≤ 8 := hp.1
  by_cases hs : inb n s = true
  · obtain ⟨k, hk, rfl⟩ := inb_t (by omega) hs
    by_cases hw : rgF 0 30 w = true
    · obtain ⟨N, h1, h2, rfl⟩ := rgF_t (a := 0) (b := 30) (by decide) (by decide) hw
      have k1 := k_wet σ (n := n) (N := N) hn3 hn8 hk h2
      rw [hpl, hmo] at k1
      exact Pair_ask h k1 (fun σ1 _ a b c d => by
        have k2 := k_mwet σ1 (n := n) (N := N) a (by rw [b]; exact hp) (by rw [c]; exact ho) d hk h2
        rw [b, c] at k2
        exact k2)
    · exact Pair_same h (k_wet_o σ hn3 hn8 hk w (rg_no hw)) (k_mwet_o σ hn hn8 hk w (rg_no hw))
  · exact Pair_same h (k_wet_u σ hn3 hn8 s w (inb_no hs)) (k_mwet_u σ hn hn8 s w (inb_no hs))
