/-! ===== town: what was read is well-formed ===== -/
theorem rdB_rg {len s lo hi : Nat} {c : Nat → Nat} {but : Int32} (hl : lo ≤ 99) (hh : hi ≤ 99) (h : rdB len c s (nI lo) (nI hi) but = true) : lo ≤ rdV len c s ∧ rdV len c s ≤ hi := by
  have h99 := rdV_99 h
  unfold rdB okN at h
  simp only [Bool.and_eq_true, decide_eq_true_eq] at h
  obtain ⟨-, -, h1, h2, -⟩ := h
  refine ⟨Nat.le_of_not_lt fun q => ?_, Nat.le_of_not_lt fun q => ?_⟩
  · exact h1 (nI_lt q (by omega))
  · exact h2 (nI_lt q (by have := h99; unfold rdV at this; omega))
theorem inq_up {n : Nat} {s : Int32} (h : inq n s) : inq (n + 1) s := h.elim Or.inl (fun ⟨k, a, b⟩ => Or.inr ⟨k, by omega, b⟩)
theorem Wp_tn : Wp tnP := ⟨by decide, ⟨30, by decide, by decide, rfl⟩, ⟨8, by decide, by decide, rfl⟩, fun k hk => absurd hk (Nat.not_lt_zero k)⟩
theorem Wp_ad {p : PL} (h : Wp p) (h8 : ¬ p.1 = 8) {k a b w : Nat} (hk : k < 4) (ha : a ≤ 20) (hb : b ≤ 20) (hw : w ≤ 99) : Wp (adP p (nI k) a b w) := by
  obtain ⟨q1, q2, q3, q4⟩ := h
  refine ⟨show p.1 + 1 ≤ 8 by omega, q2, q3, fun i hi => ?_⟩
  have hi' : i < p.1 + 1 := hi
  by_cases e : i = p.1
  · refine ⟨⟨k, hk, ?_⟩, ⟨a, ha, ?_⟩, ⟨b, hb, ?_⟩, ⟨w, hw, ?_⟩, Or.inl ?_⟩
    all_goals (subst e; exact upd_s _ _ _)
  · obtain ⟨⟨a1, b1, c1⟩, ⟨a2, b2, c2⟩, ⟨a3, b3, c3⟩, ⟨a4, b4, c4⟩, h5⟩ := q4 i (by omega)
    exact ⟨⟨a1, b1, (upd_n _ e).trans c1⟩, ⟨a2, b2, (upd_n _ e).trans c2⟩, ⟨a3, b3, (upd_n _ e).trans c3⟩, ⟨a4, b4, (upd_n _ e).trans c4⟩, by
      show inq (p.1 + 1) (upd p.2.2.2.2.2.2.2 p.1 (-1) i)
      rw [upd_n _ e]
      exact inq_up h5⟩
theorem Wp_tl {p : PL} (h : Wp p) {a b : Nat} (hb : b < p.1) : Wp (tlP p a b) := by
  obtain ⟨q1, q2, q3, q4⟩ := h
  refine ⟨q1, q2, q3, fun i hi => ?_⟩
  obtain ⟨h1, h2, h3, h4, h5⟩ := q4 i hi
  refine ⟨h1, h2, h3, h4, ?_⟩
  show inq p.1 (upd p.2.2.2.2.2.2.2 a (nI b) i)
  by_cases e : i = a
  · subst e; rw [upd_s]; exact Or.inr ⟨b, hb, rfl⟩
  · rw [upd_n _ e]; exact h5
theorem kw_4 {c : Nat → Nat} {s t : Nat} (h : ¬ kwF c s t = -1) : ∃ k, k < 4 ∧ kwF c s t = nI k := by
  unfold kwF at h ⊢
  by_cases h4 : wdF c s t 4 = true
  · exact ⟨0, by decide, if_pos h4⟩
  · rw [if_neg h4] at h ⊢
    by_cases h5 : wdF c s t 5 = true
    · exact ⟨1, by decide, if_pos h5⟩
    · rw [if_neg h5] at h ⊢
      by_cases h6 : wdF c s t 6 = true
      · exact ⟨2, by decide, if_pos h6⟩
      · rw [if_neg h6] at h ⊢
        by_cases h7 : wdF c s t 7 = true
        · exact ⟨3, by decide, if_pos h7⟩
        · rw [if_neg h7] at h
          exact absurd rfl h
theorem ne_f {b : Bool} (h : ¬ b = false) : b = true := by cases b; exact absurd rfl h; rfl
theorem Wp_cls {len : Nat} {c : Nat → Nat} {p : PL} {s : Nat} (h : Wp p) {q : PL × Nat} (hq : clsF len c p s = .inr q) : Wp q.1 := by
  unfold clsF at hq
  by_cases w0 : wdF c s (tkE len c s) 0 = true
  · rw [if_pos w0] at hq
    obtain rfl := Sum.inr.inj hq
    exact Wp_tn
  rw [if_neg w0] at hq
  by_cases w1 : wdF c s (tkE len c s) 1 = true
  · rw [if_pos w1] at hq
    unfold slF at hq
    by_cases r1 : rdB len c (nxF len c s) 0 (nI p.1 - 1) (-1) = false
    · rw [if_pos r1] at hq; exact absurd hq Sum.inl_ne_inr
    rw [if_neg r1] at hq
    by_cases r2 : rdB len c (nxF len c (nxF len c s)) 0 (nI p.1 - 1) (nI (rdV len c (nxF len c s))) = false
    · rw [if_pos r2] at hq; exact absurd hq Sum.inl_ne_inr
    rw [if_neg r2] at hq
    obtain rfl := Sum.inr.inj hq
    exact Wp_tl h (rdB_in (ne_f r2) h.1).1
  rw [if_neg w1] at hq
  by_cases w2 : wdF c s (tkE len c s) 2 = true
  · rw [if_pos w2] at hq
    by_cases r1 : rdB len c (nxF len c s) 5 99 (-1) = false
    · rw [if_pos r1] at hq; exact absurd hq Sum.inl_ne_inr
    rw [if_neg r1] at hq
    obtain rfl := Sum.inr.inj hq
    obtain ⟨x1, x2⟩ := rdB_rg (lo := 5) (hi := 99) (by decide) (by decide) (ne_f r1)
    exact ⟨h.1, ⟨_, x1, x2, rfl⟩, h.2.2.1, h.2.2.2⟩
  rw [if_neg w2] at hq
  by_cases w3 : wdF c s (tkE len c s) 3 = true
  · rw [if_pos w3] at hq
    by_cases r1 : rdB len c (nxF len c s) 1 20 (-1) = false
    · rw [if_pos r1] at hq; exact absurd hq Sum.inl_ne_inr
    rw [if_neg r1] at hq
    obtain rfl := Sum.inr.inj hq
    obtain ⟨x1, x2⟩ := rdB_rg (lo := 1) (hi := 20) (by decide) (by decide) (ne_f r1)
    exact ⟨h.1, h.2.1, ⟨_, x1, x2, rfl⟩, h.2.2.2⟩
  rw [if_neg w3] at hq
  by_cases w4 : kwF c s (tkE len c s) = -1
  · rw [if_pos w4] at hq; exact absurd hq Sum.inl_ne_inr
  rw [if_neg w4] at hq
  obtain ⟨k, hk, ek⟩ := kw_4 w4
  rw [ek] at hq
  unfold csF at hq
  by_cases h8 : p.1 = 8
  · rw [if_pos h8] at hq; exact absurd hq Sum.inl_ne_inr
  rw [if_neg h8] at hq
  by_cases r1 : rdB len c (nxF len c s) 0 20 (-1) = false
  · rw [if_pos r1] at hq; exact absurd hq Sum.inl_ne_inr
  rw [if_neg r1] at hq
  by_cases r2 : rdB len c (nxF len c (nxF len c s)) 0 20 (-1) = false
  · rw [if_pos r2] at hq; exact absurd hq Sum.inl_ne_inr
  rw [if_neg r2] at hq
  by_cases r3 : rdB len c (nxF len c (nxF len c (nxF len c s))) 0 99 (-1) = false
  · rw [if_pos r3] at hq; exact absurd hq Sum.inl_ne_inr
  rw [if_neg r3] at hq
  obtain rfl := Sum.inr.inj hq
  exact Wp_ad h h8 hk (rdB_rg (lo := 0) (hi := 20) (by decide) (by decide) (ne_f r1)).2 (rdB_rg (lo := 0) (hi := 20) (by decide) (by decide) (ne_f r2)).2 (rdV_99 (ne_f r3))
theorem Wp_rdF {len : Nat} {c : Nat → Nat} : ∀ (f j : Nat) (p : PL) (s : Nat), Wp p → ∀ q, rdF len c f j p s = .inr q → Wp q.2 := by
  intro f
  induction f with
  | zero => intro j p s _ q hq; exact absurd hq Sum.inl_ne_inr
  | succ f ih =>
    intro j p s h q hq
    unfold rdF at hq
    generalize hr : clsF len c p s = r at hq
    cases r with
    | inl x => exact absurd hq Sum.inl_ne_inr
    | inr y =>
      have hy := Wp_cls h hr
      replace hq : (if ¬ y.2 < len then .inr (j + 1, y.1) else if ¬ c y.2 = 59 ∨ 14 ≤ j + 1 then .inl y.2 else rdF len c f (j + 1) y.1 (nxF len c y.2)) = Sum.inr q := hq
      by_cases b1 : ¬ y.2 < len
      · rw [if_pos b1] at hq
        obtain rfl := Sum.inr.inj hq
        exact hy
      rw [if_neg b1] at hq
      by_cases b2 : ¬ c y.2 = 59 ∨ 14 ≤ j + 1
      · rw [if_pos b2] at hq; exact absurd hq Sum.inl_ne_inr
      rw [if_neg b2] at hq
      exact ih _ _ _ hy q hq
theorem Wd_of {p : PL} (h : Wp p) : Wd p.1 (p.2.2.2.2.2.2.1, p.2.2.2.2.2.1, -1, 0) := ⟨⟨fun i hi => (h.2.2.2 i hi).2.2.2.1, fun i hi => (h.2.2.2 i hi).2.2.1, Or.inl rfl⟩, 0, by decide, rfl⟩
theorem p_town {n : Nat} {σ : Sg} (h : Inv n σ) : Pair YX8_town YX9_town [] σ := by
  obtain ⟨hn3, hn, hpl, hp⟩ := h.2.1
  obtain ⟨len, c, hT, hM⟩ := h.1
  have hn8 : n ≤ 8 := hp.1
  have ep : plP n σ 3 = plM n σ 83 := hpl
  have k1 := k_town σ hT hn3 hn8
  rw [ep] at k1
  have hw : ∀ q, rdA len c (plM n σ 83) = .inr q → Wp q.2 := Wp_rdF 14 0 _ _ hp
  generalize hr : rdA len c (plM n σ 83) = r at k1 hw
  have k2 : ∀ σ1 : Sg, (σ1 81 1 = σ 81 1) → σ1 82 = σ 82 → σ1 83 = σ 83 → Cm 12 YX9_town [.ref 81] σ1 (fun v σ' => TWM σ1 σ' v r) := fun σ1 a b d => by
    have z := k_mtown σ1 (len := len) (n := n) (c := c) ⟨by rw [a]; exact hM.1, hM.2.1, fun i hi => by rw [b]; exact hM.2.2 i hi⟩ (by rw [d]; exact hn) hn8
    rw [plM_fr d, hr] at z
    exact z
  cases r with
  | inl x =>
    refine ⟨_, k1, fun v σ1 h1 => ?_⟩
    obtain ⟨rfl, hF, h11⟩ := h1
    refine ⟨_, rfl, _, k2 σ1 (by rw [hF 81 (by decide) (by decide)]) (hF 82 (by decide) (by decide)) (hF 83 (by decide) (by decide)), fun v2 σ2 h2 => ?_⟩
    obtain ⟨rfl, h4⟩ := h2
    exact ⟨rfl, n, Inv_rd h hF h11 h4⟩
  | inr q =>
    refine ⟨_, k1, fun v σ1 h1 => ?_⟩
    obtain ⟨rfl, g1, g2, g3, g4, g5, g6, g7, g8, g9, g10, g11⟩ := h1
    refine ⟨_, rfl, _, k2 σ1 (by rw [g11 81 (by decide)]) (g11 82 (by decide)) (g11 83 (by decide)), fun v2 σ2 h2 => ?_⟩
    obtain ⟨rfl, m1, m2, m3, m4, m5, m6, m7, m8, m9, m10, m11⟩ := h2
    have lo : ∀ d, d < 81 → σ2 d = σ1 d := fun d hd => m11 d (by omega) (by omega) (by omega) (by omega) (by omega)
    have hq := hw q rfl
    refine ⟨rfl, q.2.1, ⟨0, c, ⟨by rw [lo 1 (by decide)]; exact g10, by decide, fun i hi => absurd hi (Nat.not_lt_zero i)⟩, ⟨m7, by decide, fun i hi => absurd hi (Nat.not_lt_zero i)⟩⟩, ⟨by rw [lo 3 (by decide)]; exact g2, m2, ?_, by rw [m3]; exact hq⟩, ?_, ⟨0, 0, by decide, by decide, by rw [lo 21 (by decide)]; exact g5, by rw [lo 21 (by decide)]; exact g6, m5, fun j hj => absurd hj (Nat.not_lt_zero j)⟩, fun k hk => Or.inl ?_, ⟨0, by decide, by rw [lo 56 (by decide)]; exact g9, m6, fun i hi => by omega⟩, NB_fr h.2.2.2.2.2.2 (fun i hi => by rw [m10 i (by omega) (by omega) (by omega) (by omega), g11 81 (by decide)])⟩
    · rw [m3]
      refine Eq.trans ?_ g3
      exact plC_fr (fun c x y => lo c (by omega))
    · unfold IvO
      rw [moC_fr (σ' := σ2) (σ := σ1) (fun c x y => lo c (by omega)), g4, m4]
      exact ⟨rfl, Wd_of hq⟩
    · rcases (show k = 0 ∨ k = 1 by omega) with rfl | rfl
      · exact ⟨by rw [lo 49 (by decide)]; exact g7, m8⟩
      · exact ⟨by rw [lo 49 (by decide)]; exact g8, m9⟩
