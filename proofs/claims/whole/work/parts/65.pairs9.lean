/-! ===== what can be undone, behind a change ===== -/
theorem Inv_chg {n nx sz : Nat} {σ σ1 σ2 : Sg} (h : Inv n σ) (a : nx < 8) (b : sz ≤ 8) (f : ∀ j, j < sz → moC n σ (23 + 3 * ((nx + 7 - j) % 8)) = moM n σ 86 (18 * (sz - 1 - j)) ∧ Wd n (moM n σ 86 (18 * (sz - 1 - j)))) (hc : paP n nx sz σ σ1) (hm : paM sz σ1 σ2) (hmo : moC n σ1 15 = moS n σ2) (hw : Wd n (moS n σ2)) : Inv n σ2 := by
  obtain ⟨c1, c2, c3, c4⟩ := hc
  obtain ⟨σk, ⟨k1, k2, k3, k4⟩, m1, m2, m3⟩ := hm
  have hn8 : n ≤ 8 := h.2.1.2.2.2.1
  have l81 : σ1 81 = σ 81 := c4 81 (by omega)
  have lo : ∀ c, (c < 15 ∨ c = 22 ∨ (47 ≤ c ∧ c ≤ 58) ∨ 82 ≤ c) → c ≠ 85 → c ≠ 86 → c ≠ 90 → σ2 c = σ c := fun c hc x y z => by rw [m3 c (by omega) x y z, c4 c (by omega)]
  have lo81 : ∀ i, i ≠ 6 → σ2 81 i = σ 81 i := fun i hi => by rw [m1, k3 i hi, l81]
  refine ⟨IvT_fr h.1 (by rw [lo 1 (by omega) (by omega) (by omega) (by omega)]) (lo 2 (by omega) (by omega) (by omega) (by omega)) (lo81 1 (by decide)) (lo 82 (by omega) (by omega) (by omega) (by omega)), IvP_fr h.2.1 (fun d x y => lo d (by omega) (by omega) (by omega) (by omega)) (lo 83 (by omega) (by omega) (by omega) (by omega)), ?_, ?_, IvK_fr h.2.2.2.2.1 (fun d x y => lo d (by omega) (by omega) (by omega) (by omega)) (lo 87 (by omega) (by omega) (by omega) (by omega)) (lo 88 (by omega) (by omega) (by omega) (by omega)), IvN_fr h.2.2.2.2.2.1 (fun d x y => lo d (by omega) (by omega) (by omega) (by omega)) (lo81 10 (by decide)) (lo 89 (by omega) (by omega) (by omega) (by omega)), NB_fr h.2.2.2.2.2.2 (fun i hi => lo81 i (by omega))⟩
  · unfold IvO
    rw [← hmo] at hw ⊢
    exact ⟨moC_fr (fun c x y => m3 c (by omega) (by omega) (by omega) (by omega)), hw.1, hw.2⟩
  · refine ⟨(nx + 1) % 8, min (sz + 1) 8, Nat.mod_lt _ (by decide), by omega, by rw [m3 21 (by decide) (by decide) (by decide) (by decide)]; exact c1, by rw [m3 21 (by decide) (by decide) (by decide) (by decide)]; exact c2, by rw [m1]; exact k1, fun j hj => ?_⟩
    have hmm : ((nx + 1) % 8 + 7 - j) % 8 < 8 := Nat.mod_lt _ (by decide)
    rw [moC_fr (σ' := σ2) (σ := σ1) (fun c x y => m3 c (by omega) (by omega) (by omega) (by omega))]
    have q := fun i (hi : i < 18) => k2 (min (sz + 1) 8 - 1 - j) i hi (by omega)
    rcases j with _ | j
    · have em : moM n σ2 86 (18 * (min (sz + 1) 8 - 1 - 0)) = moS n σ := moM_of hn8 (fun i hi => by rw [m2, q i hi, if_pos (by omega), c4 85 (by omega)])
      rw [em, show ((nx + 1) % 8 + 7 - 0) % 8 = nx by omega, c3]
      exact h.2.2.1
    · have fj := f j (by omega)
      have er : 18 * (min (sz + 1) 8 - 1 - (j + 1)) + (if sz = 8 then 18 else 0) = 18 * (sz - 1 - j) := by
        by_cases e : sz = 8
        · rw [if_pos e]; omega
        · rw [if_neg e]; omega
      have em : moM n σ2 86 (18 * (min (sz + 1) 8 - 1 - (j + 1))) = moM n σ 86 (18 * (sz - 1 - j)) := by
        have q2 : ∀ i, i < 18 → σ2 86 (18 * (min (sz + 1) 8 - 1 - (j + 1)) + i) = σ 86 (18 * (sz - 1 - j) + i) := fun i hi => by
          rw [m2, q i hi, if_neg (by omega)]
          by_cases e : sz = 8
          · rw [if_pos e, c4 86 (by omega)]
            rw [if_pos e] at er
            exact congrArg (σ 86) (by omega)
          · rw [if_neg e, c4 86 (by omega)]
            rw [if_neg e] at er
            exact congrArg (σ 86) (by omega)
        unfold moM
        rw [tr_ext (fun i hi => q2 i (by omega)), tr_ext (f := fun i => σ2 86 (18 * (min (sz + 1) 8 - 1 - (j + 1)) + (8 + i))) (fun i hi => q2 (8 + i) (by omega)), q2 17 (by decide), q2 16 (by decide)]
      rw [em, show ((nx + 1) % 8 + 7 - (j + 1)) % 8 = (nx + 7 - j) % 8 by omega]
      have hx : (nx + 7 - j) % 8 ≠ nx := by omega
      have hm2 : (nx + 7 - j) % 8 < 8 := Nat.mod_lt _ (by decide)
      rw [moC_fr (σ' := σ1) (σ := σ) (fun c x y => c4 c (by omega))]
      exact fj
/-- a call that changes the moment -/
theorem Pair_chg {Y Y2 : xY} {As : List Value} {n nx sz : Nat} {σ : Sg} {r : Int32} {o : MO} (h : Inv n σ) (a : nx < 8) (b : sz ≤ 8) (e : σ 81 6 = nI sz) (f : ∀ j, j < sz → moC n σ (23 + 3 * ((nx + 7 - j) % 8)) = moM n σ 86 (18 * (sz - 1 - j)) ∧ Wd n (moM n σ 86 (18 * (sz - 1 - j)))) (hw : Wd n o) (k1 : Cm 12 Y (.ref 0 :: As) σ (fun v σ' => v = some (.int r) ∧ moC n σ' 15 = o ∧ paP n nx sz σ σ')) (k2 : ∀ σ1, σ1 83 0 = nI n → plM n σ1 83 = plM n σ 83 → moS n σ1 = moS n σ → NB σ1 → σ1 81 6 = nI sz → σ1 85 = σ 85 → Cm 12 Y2 (.ref 81 :: As) σ1 (fun v σ' => v = some (.int r) ∧ moS n σ' = o ∧ paM sz σ1 σ')) : Pair Y Y2 As σ :=
  ⟨_, k1, fun v σ1 h1 => by
    obtain ⟨rfl, ho, hc⟩ := h1
    have e81 : σ1 81 = σ 81 := hc.2.2.2 81 (by omega)
    have e83 : σ1 83 = σ 83 := hc.2.2.2 83 (by omega)
    have e85 : σ1 85 = σ 85 := hc.2.2.2 85 (by omega)
    refine ⟨r, rfl, _, k2 σ1 (by rw [e83]; exact h.2.1.2.1) (plM_fr e83) (by unfold moS; rw [e85]) (by unfold NB; rw [e81]; exact h.2.2.2.2.2.2) (by rw [e81]; exact e) e85, fun v2 σ2 h2 => ?_⟩
    obtain ⟨rfl, ho2, hm⟩ := h2
    exact ⟨rfl, n, Inv_chg h a b f hc hm (by rw [ho, ho2]) (by rw [ho2]; exact hw)⟩⟩
theorem p_day {n : Nat} {σ : Sg} (h : Inv n σ) : Pair YX8_day YX9_day [] σ := by
  obtain ⟨hn3, hn, hpl, hp⟩ := h.2.1
  obtain ⟨hmo, ho, d0, hd1, hd2⟩ := h.2.2.1
  have hn8 : n ≤ 8 := hp.1
  obtain ⟨nx, sz, a, b, c, d, e, f⟩ := h.2.2.2.1
  have e15 : σ 15 3 = nI d0 := (congrArg (fun z : MO => z.2.2.2) hmo).trans hd2
  have e85 : σ 85 16 = nI d0 := hd2
  by_cases hd : d0 = 999
  · subst hd
    exact Pair_same h (k_day_f σ e15) (k_mday_f σ e85)
  · have hlt : σ 15 3 < 999 := by rw [e15]; exact nI_lt (b := 999) (by omega) (by decide)
    have hne : ¬ σ 85 16 = 999 := by
      rw [← show σ 15 3 = σ 85 16 from e15.trans e85.symm]
      intro q
      rw [q] at hlt
      exact Int32.lt_irrefl hlt
    have k1 := k_day σ hn3 hn8 c a d b hlt
    rw [hpl, hmo] at k1
    refine Pair_chg h a b e f (o := daF (plM n σ 83) (moS n σ)) ⟨da_wk hp ho, d0 + 1, by omega, ?_⟩ k1 (fun σ1 x1 x2 x3 x4 x5 x6 => ?_)
    · show (moS n σ).2.2.2 + 1 = nI (d0 + 1)
      rw [hd2]
      exact nI_add d0 1
    · have k2 := k_mday σ1 (n := n) x1 (by rw [x2]; exact hp) (by rw [x3]; exact ho) x4 x5 b (by rw [x6]; exact hne)
      rw [x2, x3] at k2
      exact k2
theorem ho_nat {a w : Nat} (h1 : a ≤ 99) (h2 : w ≤ 20) : ∃ x, x ≤ 99 ∧ hoF (nI a) (nI w) = nI x := by
  refine ⟨min (a + w) 99, by omega, ?_⟩
  unfold hoF
  rw [nI_add]
  show (if nI (a + w) < nI 99 then nI (a + w) else nI 99) = nI (min (a + w) 99)
  by_cases h : a + w < 99
  · rw [if_pos (nI_lt (b := 99) h (by decide)), Nat.min_eq_left (by omega)]
  · rw [if_neg (show ¬ nI (a + w) < nI 99 from nI_nlt (by omega) (by omega)), Nat.min_eq_right (by omega)]
theorem p_hose {n : Nat} {σ : Sg} (h : Inv n σ) (s w : Int32) : Pair YX8_hose YX9_hose [.int s, .int w] σ := by
  obtain ⟨hn3, hn, hpl, hp⟩ := h.2.1
  obtain ⟨hmo, ho, d0, hd1, hd2⟩ := h.2.2.1
  have hn8 : n ≤ 8 := hp.1
  obtain ⟨nx, sz, a, b, c, d, e, f⟩ := h.2.2.2.1
  by_cases hs : inb n s = true
  · obtain ⟨k, hk, rfl⟩ := inb_t (by omega) hs
    by_cases hw : rgF 1 20 w = true
    · obtain ⟨N, h1, h2, rfl⟩ := rgF_t (a := 1) (b := 20) (by decide) (by decide) hw
      have k1 := k_hose σ hn3 hn8 hk c a d b (w := N) h1 h2
      rw [hmo] at k1
      refine Pair_chg h a b e f (o := (upd (moS n σ).1 k (hoF ((moS n σ).1 k) (nI N)), (moS n σ).2)) ⟨⟨?_, ho.2.1, ho.2.2⟩, d0, hd1, hd2⟩ k1 (fun σ1 x1 x2 x3 x4 x5 x6 => ?_)
      · intro i hi
        obtain ⟨y, y1, y2⟩ := ho.1 i hi
        by_cases q : i = k
        · subst q
          show ∃ a, a ≤ 99 ∧ upd (moS n σ).1 i _ i = nI a
          rw [upd_s, y2]
          exact ho_nat y1 h2
        · exact ⟨y, y1, by show upd (moS n σ).1 k _ i = nI y; rw [upd_n _ q]; exact y2⟩
      · have k2 := k_mhose σ1 (n := n) x1 hn8 hk x5 b h1 h2
        rw [x3] at k2
        exact k2
    · exact Pair_same h (k_hose_o σ hn3 hn8 hk w (rg_no hw)) (k_mhose_o σ hn hn8 hk w (rg_no hw))
  · exact Pair_same h (k_hose_u σ hn3 hn8 s w (inb_no hs)) (k_mhose_u σ hn hn8 s w (inb_no hs))
theorem p_poll {n : Nat} {σ : Sg} (h : Inv n σ) (s w : Int32) : Pair YX8_poll YX9_poll [.int s, .int w] σ := by
  obtain ⟨hn3, hn, hpl, hp⟩ := h.2.1
  obtain ⟨hmo, ho, d0, hd1, hd2⟩ := h.2.2.1
  have hn8 : n ≤ 8 := hp.1
  obtain ⟨nx, sz, a, b, c, d, e, f⟩ := h.2.2.2.1
  by_cases hs : inb n s = true
  · obtain ⟨k, hk, rfl⟩ := inb_t (by omega) hs
    by_cases hw : rgF 0 20 w = true
    · obtain ⟨N, h1, h2, rfl⟩ := rgF_t (a := 0) (b := 20) (by decide) (by decide) hw
      have k1 := k_poll σ hn3 hn8 hk c a d b (w := N) h2
      rw [hmo] at k1
      refine Pair_chg h a b e f (o := ((moS n σ).1, upd (moS n σ).2.1 k (nI N), (moS n σ).2.2)) ⟨⟨ho.1, ?_, ho.2.2⟩, d0, hd1, hd2⟩ k1 (fun σ1 x1 x2 x3 x4 x5 x6 => ?_)
      · intro i hi
        obtain ⟨y, y1, y2⟩ := ho.2.1 i hi
        by_cases q : i = k
        · subst q
          exact ⟨N, h2, upd_s _ _ _⟩
        · exact ⟨y, y1, by show upd (moS n σ).2.1 k _ i = nI y; rw [upd_n _ q]; exact y2⟩
      · have k2 := k_mpoll σ1 (n := n) x1 hn8 hk x5 b h2
        rw [x3] at k2
        exact k2
    · exact Pair_same h (k_poll_o σ hn3 hn8 hk w (rg_no hw)) (k_mpoll_o σ hn hn8 hk w (rg_no hw))
  · exact Pair_same h (k_poll_u σ hn3 hn8 s w (inb_no hs)) (k_mpoll_u σ hn hn8 s w (inb_no hs))
