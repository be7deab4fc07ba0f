/-! ===== the asking calls, on both ===== -/
theorem p_street {n : Nat} {σ : Sg} (h : Inv n σ) (s w : Int32) : Pair YX8_street YX9_street [.int s, .int w] σ := by
  obtain ⟨hn3, hn, hpl, hp⟩ := h.2.1
  obtain ⟨hmo, ho, _⟩ := h.2.2.1
  have hn8 : n ≤ 8 := hp.1
  by_cases hs : inb n s = true
  · obtain ⟨k, hk, rfl⟩ := inb_t (by omega) hs
    by_cases hw : rgF 0 6 w = true
    · obtain ⟨N, h1, h2, rfl⟩ := rgF_t (a := 0) (b := 6) (by decide) (by decide) hw
      have k1 := k_street σ (n := n) hn3 hn8 hk (w := N) (by omega)
      rw [hpl, hmo] at k1
      exact Pair_ask h k1 (fun σ1 _ a b c d => by
        have k2 := k_mstreet σ1 (n := n) a hn8 d hk (w := N) (by omega)
        rw [b, c] at k2
        exact k2)
    · refine ⟨_, k_street_o σ hn3 hn8 hk w (rg_no hw), fun v σ1 h1 => ?_⟩
      obtain ⟨rfl, rfl⟩ := h1
      refine ⟨_, rfl, _, k_mstreet_o σ1 hn hn8 h.2.2.2.2.2.2 hk w (rg_no hw), fun v2 σ2 h2 => ?_⟩
      obtain ⟨rfl, hm⟩ := h2
      exact ⟨rfl, n, Inv_ask h (frQ_rf _) hm⟩
  · exact Pair_same h (k_street_u σ hn3 hn8 s w (inb_no hs)) (k_mstreet_u σ hn hn8 s w (inb_no hs))
theorem p_as {n : Nat} {σ : Sg} (h : Inv n σ) (s w : Int32) : Pair YX8_as YX9_as [.int s, .int w] σ := by
  obtain ⟨hn3, hn, hpl, hp⟩ := h.2.1
  have hn8 : n ≤ 8 := hp.1
  by_cases hs : inb n s = true
  · obtain ⟨k, hk, rfl⟩ := inb_t (by omega) hs
    by_cases hw : rgF 0 4 w = true
    · obtain ⟨N, h1, h2, rfl⟩ := rgF_t (a := 0) (b := 4) (by decide) (by decide) hw
      obtain ⟨kd, hk4, hkd⟩ := (hp.2.2.2 k hk).1
      have hkc : (plC n σ).2.2.2.1 k = nI kd := by rw [hpl]; exact hkd
      have k1 := k_as σ (n := n) hn3 hn8 hk hkc hk4 (t := N) (by omega)
      rw [hpl] at k1
      exact Pair_same h k1 (k_mas σ hn hn8 hk hkd hk4 (by omega))
    · exact Pair_same h (k_as_o σ hn3 hn8 hk w (rg_no hw)) (k_mas_o σ hn hn8 hk w (rg_no hw))
  · exact Pair_same h (k_as_u σ hn3 hn8 s w (inb_no hs)) (k_mas_u σ hn hn8 s w (inb_no hs))
theorem p_carry {n : Nat} {σ : Sg} (h : Inv n σ) (s : Int32) : Pair YX8_carry YX9_carry [.int s] σ := by
  obtain ⟨hn3, hn, hpl, hp⟩ := h.2.1
  obtain ⟨hmo, ho, _⟩ := h.2.2.1
  have hn8 : n ≤ 8 := hp.1
  by_cases hs : inb n s = true
  · obtain ⟨k, hk, rfl⟩ := inb_t (by omega) hs
    have k1 := k_carry σ (n := n) hn3 hn8 hk
    rw [hpl, hmo] at k1
    exact Pair_ask h k1 (fun σ1 _ a b c d => by
      have k2 := k_mcarry σ1 (n := n) a hn8 d hk
      rw [b, c] at k2
      exact k2)
  · exact Pair_same h (k_carry_u σ hn3 hn8 s (inb_no hs)) (k_mcarry_u σ hn hn8 s (inb_no hs))
theorem p_reach {n : Nat} {σ : Sg} (h : Inv n σ) (s : Int32) : Pair YX8_reach YX9_reach [.int s] σ := by
  obtain ⟨hn3, hn, hpl, hp⟩ := h.2.1
  obtain ⟨hmo, ho, _⟩ := h.2.2.1
  have hn8 : n ≤ 8 := hp.1
  by_cases hs : inb n s = true
  · obtain ⟨k, hk, rfl⟩ := inb_t (by omega) hs
    have k1 := k_reach σ (n := n) hn3 hn8 hk
    rw [hpl, hmo] at k1
    exact Pair_ask h k1 (fun σ1 _ a b c d => by
      have k2 := k_mreach σ1 (n := n) a (by rw [b]; exact hp) (by rw [c]; exact ho) hk
      rw [b, c] at k2
      exact k2)
  · exact Pair_same h (k_reach_u σ hn3 hn8 s (inb_no hs)) (k_mreach_u σ hn hn8 s (inb_no hs))
theorem p_polls {n : Nat} {σ : Sg} (h : Inv n σ) (s : Int32) : Pair YX8_polls YX9_polls [.int s] σ := by
  obtain ⟨hn3, hn, hpl, hp⟩ := h.2.1
  obtain ⟨hmo, ho, _⟩ := h.2.2.1
  obtain ⟨q, hq6, hq, hqm, hN⟩ := h.2.2.2.2.2.1
  have hn8 : n ≤ 8 := hp.1
  by_cases hs : inb n s = true
  · obtain ⟨k, hk, rfl⟩ := inb_t (by omega) hs
    have k1 := k_polls σ (n := n) hn3 hn8 hk hq hq6 (fun i hi => by obtain ⟨t, st, h1, _, _, h4, _⟩ := hN i hi; exact ⟨t, h1, h4⟩)
    rw [hpl, hmo] at k1
    exact Pair_ask h k1 (fun σ1 hf a b c d => by
      have k2 := k_mpolls σ1 (n := n) (pl := σ 57) (ti := σ 58) a (by rw [b]; exact hp) (by rw [c]; exact ho) d hk (q := q) (by rw [hf 81 (by omega)]; exact hqm) hq6 (by rw [hf 89 (by omega)]; exact hN)
      rw [b, c] at k2
      exact k2)
  · exact Pair_same h (k_polls_u σ hn3 hn8 s (inb_no hs)) (k_mpolls_u σ hn hn8 s (inb_no hs))
theorem inq_of {n : Nat} {s : Int32} (hn8 : n ≤ 8) (h : s = -1 ∨ inb n s = true) : inq n s := h.elim Or.inl (fun z => by obtain ⟨k, hk, e⟩ := inb_t (by omega) z; exact Or.inr ⟨k, hk, e⟩)
theorem p_chance {n : Nat} {σ : Sg} (h : Inv n σ) (s w t : Int32) : Pair YX8_chance YX9_chance [.int s, .int w, .int t] σ := by
  obtain ⟨hn3, hn, hpl, hp⟩ := h.2.1
  obtain ⟨hmo, ho, _⟩ := h.2.2.1
  have hn8 : n ≤ 8 := hp.1
  by_cases hs : s = -1 ∨ inb n s = true
  · have hq := inq_of hn8 hs
    by_cases hw : rgF 0 10 w = true
    · by_cases ht : rgF 0 1 t = true
      · obtain ⟨q, _, h2, rfl⟩ := rgF_t (a := 0) (b := 10) (by decide) (by decide) hw
        obtain ⟨u, _, h4, rfl⟩ := rgF_t (a := 0) (b := 1) (by decide) (by decide) ht
        have k1 := k_chance σ (n := n) hn3 hn8 s hq h2 h4
        rw [hpl, hmo] at k1
        exact Pair_ask h k1 (fun σ1 _ a b c d => by
          have k2 := k_mchance σ1 (n := n) a hn8 d s hq h2 h4
          rw [b, c] at k2
          exact k2)
      · exact Pair_same h (k_chance_o σ hn3 hn8 s hq w t (Or.inr (rg_no ht))) (k_mchance_o σ hn hn8 s w t hq (Or.inr (rg_no ht)))
    · exact Pair_same h (k_chance_o σ hn3 hn8 s hq w t (Or.inl (rg_no hw))) (k_mchance_o σ hn hn8 s w t hq (Or.inl (rg_no hw)))
  · have h1 : ¬ s = -1 := fun z => hs (Or.inl z)
    have h2 : inb n s = false := inb_no (fun z => hs (Or.inr z))
    exact Pair_same h (k_chance_u σ hn3 hn8 s w t h2 h1) (k_mchance_u σ hn hn8 s w t h2 h1)
theorem p_count {n : Nat} {σ : Sg} (h : Inv n σ) (w : Int32) : Pair YX8_count YX9_count [.int w] σ := by
  obtain ⟨hn3, hn, hpl, hp⟩ := h.2.1
  obtain ⟨hmo, ho, _⟩ := h.2.2.1
  obtain ⟨len, c, hT, hM⟩ := h.1
  obtain ⟨nx, sz, _, _, _, hu, hum, _⟩ := h.2.2.2.1
  obtain ⟨q, hq6, hq, hqm, hN⟩ := h.2.2.2.2.2.1
  have hn8 : n ≤ 8 := hp.1
  by_cases hw : rgF 0 9 w = true
  · obtain ⟨N, _, h2, rfl⟩ := rgF_t (a := 0) (b := 9) (by decide) (by decide) hw
    have k1 := k_count σ (n := n) (w := N) hn3 hn8 hq hu hT.1 (by omega)
    rw [hpl, hmo] at k1
    exact Pair_same h k1 (k_mcount σ hn hn8 hqm hum hM.1 (by omega))
  · exact Pair_same h (k_count_o σ w (rg_no hw)) (k_mcount_o σ hn hn8 w (rg_no hw))
