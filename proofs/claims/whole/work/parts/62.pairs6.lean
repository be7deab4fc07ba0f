/-! ===== seen ===== -/
theorem seen_w {n w : Nat} {s : Int32} (hs : inq n s) (hn8 : n ≤ 8) : ∃ st, st ≤ 9 ∧ s = nI st - 1 ∧ (10 : Int32) * nI w + s + 1 = nI (10 * w + st) := by
  have e : (10 : Int32) * nI w = nI (10 * w) := nI_mul 10 w
  rcases hs with rfl | ⟨k, hk, rfl⟩
  · refine ⟨0, by decide, by decide, ?_⟩
    rw [e, Int32.add_assoc, show (-1 : Int32) + 1 = 0 from by decide, Int32.add_zero]
    rfl
  · exact ⟨k + 1, by omega, (nI_pred k).symm, by rw [e, nI_add, nI_1]; rfl⟩
theorem p_seen {n : Nat} {σ : Sg} (h : Inv n σ) (s w : Int32) : Pair YX8_seen YX9_seen [.int s, .int w] σ := by
  obtain ⟨hn3, hn, hpl, hp⟩ := h.2.1
  obtain ⟨q, hq6, hq, hqm, hN⟩ := h.2.2.2.2.2.1
  have hn8 : n ≤ 8 := hp.1
  by_cases hs : s = -1 ∨ inb n s = true
  · have hsq := inq_of hn8 hs
    by_cases hw : rgF 1 20 w = true
    · obtain ⟨t, t1, t2, rfl⟩ := rgF_t (a := 1) (b := 20) (by decide) (by decide) hw
      refine ⟨_, k_seen σ hn3 hn8 s hsq hq hq6 t1 t2, fun v σ1 h1 => ?_⟩
      rcases h1 with ⟨h6, rfl, rfl⟩ | ⟨hlt, rfl, g1, g2, g3, g4⟩
      · exact ⟨_, rfl, _, k_mseen_f σ1 hn hn8 s hsq t1 t2 (by rw [hqm, h6]), fun v2 σ2 h2 => by obtain ⟨rfl, rfl⟩ := h2; exact ⟨rfl, n, h⟩⟩
      · refine ⟨_, rfl, _, k_mseen σ1 (n := n) (q := q) (w := t) (by rw [g4 83 (by decide)]; exact hn) hn8 s hsq t1 t2 (by rw [g4 81 (by decide)]; exact hqm) hlt, fun v2 σ2 h2 => ?_⟩
        obtain ⟨rfl, rfl⟩ := h2
        obtain ⟨st, s1, s2, s3⟩ := seen_w (w := t) hsq hn8
        have lo : ∀ c, c ≠ 81 → c ≠ 89 → ¬ (56 ≤ c ∧ c ≤ 58) → sg (sg σ1 89 q (10 * nI t + s + 1)) 81 10 (nI (q + 1)) c = σ c := fun c a b d => by rw [sg_n _ _ _ a, sg_n _ _ _ b]; exact g4 c d
        have h81 : ∀ i, i ≠ 10 → sg (sg σ1 89 q (10 * nI t + s + 1)) 81 10 (nI (q + 1)) 81 i = σ 81 i := fun i hi => by rw [sg_k _ _ _ hi, sg_n _ _ _ (by decide), g4 81 (by decide)]
        refine ⟨rfl, n, IvT_fr h.1 (by rw [lo 1 (by decide) (by decide) (by decide)]) (lo 2 (by decide) (by decide) (by decide)) (h81 1 (by decide)) (lo 82 (by decide) (by decide) (by decide)), IvP_fr h.2.1 (fun d a b => lo d (by omega) (by omega) (by omega)) (lo 83 (by decide) (by decide) (by decide)), ?_, IvU_fr h.2.2.2.1 (fun d a b => lo d (by omega) (by omega) (by omega)) (h81 6 (by decide)) (lo 86 (by decide) (by decide) (by decide)), IvK_fr h.2.2.2.2.1 (fun d a b => lo d (by omega) (by omega) (by omega)) (lo 87 (by decide) (by decide) (by decide)) (lo 88 (by decide) (by decide) (by decide)), ?_, NB_fr h.2.2.2.2.2.2 (fun i hi => h81 i (by omega))⟩
        · have em : moS n (sg (sg σ1 89 q (10 * nI t + s + 1)) 81 10 (nI (q + 1))) = moS n σ := by unfold moS; rw [lo 85 (by decide) (by decide) (by decide)]
          unfold IvO
          rw [em, moC_fr (σ := σ) (fun c a b => lo c (by omega) (by omega) (by omega))]
          exact h.2.2.1
        · refine ⟨q + 1, by omega, by rw [sg_n _ _ _ (by decide), sg_n _ _ _ (by decide)]; exact g1, sg_s _ _ _ _, fun k hk => ?_⟩
          rw [sg_n _ _ _ (by decide), sg_row, sg_n _ _ _ (by decide), sg_n _ _ _ (by decide), sg_n _ _ _ (by decide), sg_n _ _ _ (by decide), g2, g3, g4 89 (by decide), s3]
          unfold upd
          by_cases e : k = q
          · exact ⟨t, st, t2, s1, by rw [if_pos e], by rw [if_pos e], by rw [if_pos e]; exact s2⟩
          · rw [if_neg e, if_neg e, if_neg e]; exact hN k (by omega)
    · exact Pair_same h (k_seen_o σ hn3 hn8 s hsq w (rg_no hw)) (k_mseen_o σ hn hn8 s w hsq (rg_no hw))
  · have h1 : ¬ s = -1 := fun z => hs (Or.inl z)
    have h2 : inb n s = false := inb_no (fun z => hs (Or.inr z))
    exact Pair_same h (k_seen_u σ hn3 hn8 s w h2 h1) (k_mseen_u σ hn hn8 s w h2 h1)
