/-! ===== undo, back ===== -/
theorem upd_n {f : FN} {k j : Nat} (x : Int32) (h : j ≠ k) : upd f k x j = f j := if_neg h
theorem upd_s (f : FN) (k : Nat) (x : Int32) : upd f k x k = x := if_pos rfl
theorem moS_of {n c o : Nat} {σ σ' : Sg} (hn8 : n ≤ 8) (h : ∀ i, i < 18 → σ' 85 i = σ c (o + i)) : moS n σ' = moM n σ c o := by
  unfold moM moS
  rw [tr_ext (f := σ' 85) (g := fun i => σ c (o + i)) (fun i hi => h i (by omega)), tr_ext (f := fun i => σ' 85 (8 + i)) (g := fun i => σ c (o + (8 + i))) (fun i hi => h (8 + i) (by omega)), h 17 (by decide), h 16 (by decide)]
theorem p_undo {n : Nat} {σ : Sg} (h : Inv n σ) : Pair YX8_undo YX9_undo [] σ := by
  obtain ⟨hn3, hn, hpl, hp⟩ := h.2.1
  have hn8 : n ≤ 8 := hp.1
  obtain ⟨nx, sz, a, b, c, d, e, f⟩ := h.2.2.2.1
  rcases sz with _ | m
  · exact Pair_same h (k_undo0 σ d) (k_mundo0 σ e)
  · refine ⟨_, k_undo σ c a d (by omega), fun v σ1 h1 => ?_⟩
    obtain ⟨rfl, g1, g2, g3, g4⟩ := h1
    have lo1 : ∀ c, c ≠ 21 → c ≠ 15 → c ≠ 16 → c ≠ 17 → σ1 c = σ c := g4
    refine ⟨_, rfl, _, k_mundo σ1 (q := m) (by rw [lo1 81 (by omega) (by omega) (by omega) (by omega)]; exact e) (by omega), fun v2 σ2 h2 => ?_⟩
    obtain ⟨rfl, W, w1, rfl⟩ := h2
    have lo : ∀ c, c ≠ 21 → c ≠ 15 → c ≠ 16 → c ≠ 17 → c ≠ 81 → c ≠ 85 → sw (sg σ1 81 6 (nI m)) 85 W c = σ c := fun c x1 x2 x3 x4 x5 x6 => by rw [sw_n _ _ x6, sg_n _ _ _ x5]; exact lo1 c x1 x2 x3 x4
    have lo81 : ∀ i, i ≠ 6 → sw (sg σ1 81 6 (nI m)) 85 W 81 i = σ 81 i := fun i hi => by rw [sw_n _ _ (by decide), sg_row, upd_n _ hi, lo1 81 (by omega) (by omega) (by omega) (by omega)]
    have lo2 : ∀ c, c ≠ 81 → c ≠ 85 → sw (sg σ1 81 6 (nI m)) 85 W c = σ1 c := fun c x y => by rw [sw_n _ _ y, sg_n _ _ _ x]
    have em : moS n (sw (sg σ1 81 6 (nI m)) 85 W) = moM n σ 86 (18 * m) := moS_of hn8 (fun i hi => by rw [sw_s, w1 i hi, lo1 86 (by omega) (by omega) (by omega) (by omega)])
    have ec : moC n (sw (sg σ1 81 6 (nI m)) 85 W) 15 = moC n σ (23 + 3 * ((nx + 7) % 8)) := by
      rw [← g3 n hn8]
      exact moC_fr (fun c x y => lo2 c (by omega) (by omega))
    have f0 := f 0 (by omega)
    rw [show m + 1 - 1 - 0 = m from rfl, show (nx + 7 - 0) % 8 = (nx + 7) % 8 from rfl] at f0
    refine ⟨rfl, n, IvT_fr h.1 (by rw [lo 1 (by omega) (by omega) (by omega) (by omega) (by omega) (by omega)]) (lo 2 (by omega) (by omega) (by omega) (by omega) (by omega) (by omega)) (lo81 1 (by decide)) (lo 82 (by omega) (by omega) (by omega) (by omega) (by omega) (by omega)), IvP_fr h.2.1 (fun d x y => lo d (by omega) (by omega) (by omega) (by omega) (by omega) (by omega)) (lo 83 (by omega) (by omega) (by omega) (by omega) (by omega) (by omega)), ?_, ?_, IvK_fr h.2.2.2.2.1 (fun d x y => lo d (by omega) (by omega) (by omega) (by omega) (by omega) (by omega)) (lo 87 (by omega) (by omega) (by omega) (by omega) (by omega) (by omega)) (lo 88 (by omega) (by omega) (by omega) (by omega) (by omega) (by omega)), IvN_fr h.2.2.2.2.2.1 (fun d x y => lo d (by omega) (by omega) (by omega) (by omega) (by omega) (by omega)) (lo81 10 (by decide)) (lo 89 (by omega) (by omega) (by omega) (by omega) (by omega) (by omega)), NB_fr h.2.2.2.2.2.2 (fun i hi => lo81 i (by omega))⟩
    · unfold IvO
      rw [em, ec, f0.1]
      exact ⟨rfl, f0.2.1, f0.2.2⟩
    · refine ⟨(nx + 7) % 8, m, Nat.mod_lt _ (by decide), by omega, by rw [lo2 21 (by decide) (by decide)]; exact g1, by rw [lo2 21 (by decide) (by decide)]; exact g2, by rw [sw_n _ _ (by decide), sg_row, upd_s], fun j hj => ?_⟩
      have fj := f (j + 1) (by omega)
      rw [show m + 1 - 1 - (j + 1) = m - 1 - j by omega, show (nx + 7 - (j + 1)) % 8 = ((nx + 7) % 8 + 7 - j) % 8 by omega] at fj
      have hm : ((nx + 7) % 8 + 7 - j) % 8 < 8 := Nat.mod_lt _ (by decide)
      rw [moM_fr (lo 86 (by omega) (by omega) (by omega) (by omega) (by omega) (by omega)), moC_fr (σ' := sw (sg σ1 81 6 (nI m)) 85 W) (σ := σ) (fun c x y => lo c (by omega) (by omega) (by omega) (by omega) (by omega) (by omega))]
      exact fj
theorem p_back {n : Nat} {σ : Sg} (h : Inv n σ) (s : Int32) : Pair YX8_back YX9_back [.int s] σ := by
  obtain ⟨hn3, hn, hpl, hp⟩ := h.2.1
  have hn8 : n ≤ 8 := hp.1
  by_cases hs : inb 2 s = true
  · obtain ⟨a, ha, rfl⟩ := inb_t (by omega) hs
    rcases h.2.2.2.2.1 a ha with ⟨z1, z2⟩ | ⟨z1, z2, z3, z4⟩
    · exact Pair_same h (k_back0 σ ha z1) (k_mback0 σ ha z2)
    · refine ⟨_, k_back σ ha z1, fun v σ1 h1 => ?_⟩
      obtain ⟨rfl, g1, g2, g3, g4⟩ := h1
      have lo1 : ∀ c, c ≠ 21 → c ≠ 15 → c ≠ 16 → c ≠ 17 → σ1 c = σ c := g4
      have l81 := lo1 81 (by omega) (by omega) (by omega) (by omega)
      refine ⟨_, rfl, _, k_mback σ1 (a := a) ha (by rw [lo1 88 (by omega) (by omega) (by omega) (by omega)]; exact z2), fun v2 σ2 h2 => ?_⟩
      obtain ⟨rfl, W, w1, rfl⟩ := h2
      have lo : ∀ c, c ≠ 21 → c ≠ 15 → c ≠ 16 → c ≠ 17 → c ≠ 81 → c ≠ 85 → sg (sw σ1 85 W) 81 6 0 c = σ c := fun c x1 x2 x3 x4 x5 x6 => by rw [sg_n _ _ _ x5, sw_n _ _ x6]; exact lo1 c x1 x2 x3 x4
      have lo81 : ∀ i, i ≠ 6 → sg (sw σ1 85 W) 81 6 0 81 i = σ 81 i := fun i hi => by rw [sg_row, upd_n _ hi, sw_n _ _ (by decide), l81]
      have lo2 : ∀ c, c ≠ 81 → c ≠ 85 → sg (sw σ1 85 W) 81 6 0 c = σ1 c := fun c x y => by rw [sg_n _ _ _ x, sw_n _ _ y]
      have em : moS n (sg (sw σ1 85 W) 81 6 0) = moM n σ 87 (18 * a) := moS_of hn8 (fun i hi => by rw [sg_n _ _ _ (by decide), sw_s, w1 i hi, lo1 87 (by omega) (by omega) (by omega) (by omega)])
      have ec : moC n (sg (sw σ1 85 W) 81 6 0) 15 = moC n σ (50 + 3 * a) := by
        rw [← g3 n hn8]
        exact moC_fr (fun c x y => lo2 c (by omega) (by omega))
      refine ⟨?_, n, IvT_fr h.1 (by rw [lo 1 (by omega) (by omega) (by omega) (by omega) (by omega) (by omega)]) (lo 2 (by omega) (by omega) (by omega) (by omega) (by omega) (by omega)) (lo81 1 (by decide)) (lo 82 (by omega) (by omega) (by omega) (by omega) (by omega) (by omega)), IvP_fr h.2.1 (fun d x y => lo d (by omega) (by omega) (by omega) (by omega) (by omega) (by omega)) (lo 83 (by omega) (by omega) (by omega) (by omega) (by omega) (by omega)), ?_, ?_, IvK_fr h.2.2.2.2.1 (fun d x y => lo d (by omega) (by omega) (by omega) (by omega) (by omega) (by omega)) (lo 87 (by omega) (by omega) (by omega) (by omega) (by omega) (by omega)) (lo 88 (by omega) (by omega) (by omega) (by omega) (by omega) (by omega)), IvN_fr h.2.2.2.2.2.1 (fun d x y => lo d (by omega) (by omega) (by omega) (by omega) (by omega) (by omega)) (lo81 10 (by decide)) (lo 89 (by omega) (by omega) (by omega) (by omega) (by omega) (by omega)), NB_fr h.2.2.2.2.2.2 (fun i hi => lo81 i (by omega))⟩
      · have e1 : σ1 15 3 = σ 87 (18 * a + 16) := (congrArg (fun z : MO => z.2.2.2) ((g3 n hn8).trans z3))
        rw [e1, lo1 87 (by omega) (by omega) (by omega) (by omega)]
      · unfold IvO
        rw [em, ec, z3]
        exact ⟨rfl, z4.1, z4.2⟩
      · exact ⟨0, 0, by decide, by decide, by rw [lo2 21 (by decide) (by decide)]; exact g1, by rw [lo2 21 (by decide) (by decide)]; exact g2, by rw [sg_row, upd_s]; rfl, fun j hj => absurd hj (by omega)⟩
  · exact Pair_same h (k_back_u σ s (inb_no hs)) (k_mback_o σ s (by rw [← inb2_rg]; exact inb_no hs))
