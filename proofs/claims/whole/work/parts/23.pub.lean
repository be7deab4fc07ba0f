/-! ===== RainBallot's calls: what is told and done ===== -/
def rgF (lo hi x : Int32) : Bool := decide (¬ x < lo ∧ ¬ hi < x)
theorem rgF_lo {lo hi x : Int32} (h : x < lo) : rgF lo hi x = false := decide_eq_false (fun q => q.1 h)
theorem rgF_hi {lo hi x : Int32} (h : hi < x) : rgF lo hi x = false := decide_eq_false (fun q => q.2 h)
theorem rgF_no {lo hi x : Int32} (h : rgF lo hi x = false) : x < lo ∨ hi < x := by
  rcases Classical.em (x < lo) with q | q
  · exact Or.inl q
  · rcases Classical.em (hi < x) with r | r
    · exact Or.inr r
    · exact absurd ⟨q, r⟩ (of_decide_eq_false h)
theorem rgF_t {a b : Nat} {x : Int32} (ha : a < 2 ^ 30) (hb : b < 2 ^ 30) (h : rgF (nI a) (nI b) x = true) : ∃ j, a ≤ j ∧ j ≤ b ∧ x = nI j := by
  obtain ⟨h1, h2⟩ := of_decide_eq_true h
  rcases pk_ix x (n := b + 1) (by omega) with h3 | h3 | ⟨j, h3, h4⟩
  · exact absurd (Int32.lt_of_lt_of_le h3 (nI_pos' (by omega))) h1
  · exact absurd (Int32.lt_of_lt_of_le (nI_lt (a := b) (b := b + 1) (by omega) (by omega)) h3) h2
  · refine ⟨j, ?_, by omega, h4⟩
    rcases Nat.lt_or_ge j a with q | q
    · rw [h4] at h1
      exact absurd (nI_lt q (by omega)) h1
    · exact q
theorem rgF_i {a b j : Nat} (h1 : a ≤ j) (h2 : j ≤ b) (hb : b < 2 ^ 30) : rgF (nI a) (nI b) (nI j) = true := decide_eq_true ⟨nI_nlt h1 (by omega), nI_nlt h2 (by omega)⟩
theorem rgF_sw {b : Nat} {x : Int32} (hb : b < 2 ^ 30) (h : rgF 0 (nI b) x = false) : x.toInt < 0 ∨ (b : Int) < x.toInt := by
  rcases rgF_no h with q | q
  · exact Or.inl (Int32.lt_iff_toInt_lt.mp q)
  · have := Int32.lt_iff_toInt_lt.mp q
    rw [nI_toInt (by omega)] at this
    exact Or.inr this
/-- what an asking call leaves -/
def frQ (σ σ' : Sg) : Prop := ∀ c, c < 18 ∨ (21 ≤ c ∧ c ≤ 58) ∨ 81 ≤ c → σ' c = σ c
theorem frQ_rf (σ : Sg) : frQ σ σ := fun _ _ => rfl

set_option maxRecDepth 100000 in
theorem k_street_u (σ : Sg) {n : Nat} (hn : σ 3 5 = nI n) (hn8 : n ≤ 8) (s : Int32) (what : Int32) (hs : inb n s = false) : Cm 12 YX8_street [.ref 0, .int s, .int what] σ (fun v σ' => v = some (.int (-2)) ∧ σ' = σ) := by
  refine Cm_of (by decide +kernel) (Nat.le_of_ble_eq_true rfl) ?_
  refine x_aload_n dX8_street_0 rfl ?_
  refine s_getr (ci := 8) (k := 1) (N := 10) (C := RX8) (T := TX8) dX8_street_1 lfX8_19 inX8 rfl (by decide) (rfl) rfl ?_
  refine x_iload_n dX8_street_4 rfl ?_
  refine s_callV dX8_street_5 (k_has σ pl_3 hn hn8 s) rfl w_X3_has lmX8_100 im_X3_has se_X3_has rfl (rfl) rfl (Nat.le_of_ble_eq_true rfl) rfl (by decide) (fun v_5 σ_5 h_5 => ?_)
  obtain ⟨rfl, z_5⟩ := h_5
  have z_5 := z_5.symm
  subst z_5
  refine x_if_ne (tgt := 14) dX8_street_8 (by decide) (fun c_8 => (absurd (by rw [hs]; rfl) c_8)) (fun c_8 => ?_)
  refine x_bipush (v := -2) dX8_street_11 (by decide) ?_
  exact s_iret dX8_street_13 rfl (⟨rfl, rfl⟩)
set_option maxRecDepth 100000 in
theorem k_as_u (σ : Sg) {n : Nat} (hn : σ 3 5 = nI n) (hn8 : n ≤ 8) (s : Int32) (t : Int32) (hs : inb n s = false) : Cm 12 YX8_as [.ref 0, .int s, .int t] σ (fun v σ' => v = some (.int (-2)) ∧ σ' = σ) := by
  refine Cm_of (by decide +kernel) (Nat.le_of_ble_eq_true rfl) ?_
  refine x_aload_n dX8_as_0 rfl ?_
  refine s_getr (ci := 8) (k := 1) (N := 10) (C := RX8) (T := TX8) dX8_as_1 lfX8_19 inX8 rfl (by decide) (rfl) rfl ?_
  refine x_iload_n dX8_as_4 rfl ?_
  refine s_callV dX8_as_5 (k_has σ pl_3 hn hn8 s) rfl w_X3_has lmX8_100 im_X3_has se_X3_has rfl (rfl) rfl (Nat.le_of_ble_eq_true rfl) rfl (by decide) (fun v_5 σ_5 h_5 => ?_)
  obtain ⟨rfl, z_5⟩ := h_5
  have z_5 := z_5.symm
  subst z_5
  refine x_if_ne (tgt := 14) dX8_as_8 (by decide) (fun c_8 => (absurd (by rw [hs]; rfl) c_8)) (fun c_8 => ?_)
  refine x_bipush (v := -2) dX8_as_11 (by decide) ?_
  exact s_iret dX8_as_13 rfl (⟨rfl, rfl⟩)
set_option maxRecDepth 100000 in
theorem k_hose_u (σ : Sg) {n : Nat} (hn : σ 3 5 = nI n) (hn8 : n ≤ 8) (s : Int32) (w : Int32) (hs : inb n s = false) : Cm 12 YX8_hose [.ref 0, .int s, .int w] σ (fun v σ' => v = some (.int (-2)) ∧ σ' = σ) := by
  refine Cm_of (by decide +kernel) (Nat.le_of_ble_eq_true rfl) ?_
  refine x_aload_n dX8_hose_0 rfl ?_
  refine s_getr (ci := 8) (k := 1) (N := 10) (C := RX8) (T := TX8) dX8_hose_1 lfX8_19 inX8 rfl (by decide) (rfl) rfl ?_
  refine x_iload_n dX8_hose_4 rfl ?_
  refine s_callV dX8_hose_5 (k_has σ pl_3 hn hn8 s) rfl w_X3_has lmX8_100 im_X3_has se_X3_has rfl (rfl) rfl (Nat.le_of_ble_eq_true rfl) rfl (by decide) (fun v_5 σ_5 h_5 => ?_)
  obtain ⟨rfl, z_5⟩ := h_5
  have z_5 := z_5.symm
  subst z_5
  refine x_if_ne (tgt := 14) dX8_hose_8 (by decide) (fun c_8 => (absurd (by rw [hs]; rfl) c_8)) (fun c_8 => ?_)
  refine x_bipush (v := -2) dX8_hose_11 (by decide) ?_
  exact s_iret dX8_hose_13 rfl (⟨rfl, rfl⟩)
set_option maxRecDepth 100000 in
theorem k_poll_u (σ : Sg) {n : Nat} (hn : σ 3 5 = nI n) (hn8 : n ≤ 8) (s : Int32) (w : Int32) (hs : inb n s = false) : Cm 12 YX8_poll [.ref 0, .int s, .int w] σ (fun v σ' => v = some (.int (-2)) ∧ σ' = σ) := by
  refine Cm_of (by decide +kernel) (Nat.le_of_ble_eq_true rfl) ?_
  refine x_aload_n dX8_poll_0 rfl ?_
  refine s_getr (ci := 8) (k := 1) (N := 10) (C := RX8) (T := TX8) dX8_poll_1 lfX8_19 inX8 rfl (by decide) (rfl) rfl ?_
  refine x_iload_n dX8_poll_4 rfl ?_
  refine s_callV dX8_poll_5 (k_has σ pl_3 hn hn8 s) rfl w_X3_has lmX8_100 im_X3_has se_X3_has rfl (rfl) rfl (Nat.le_of_ble_eq_true rfl) rfl (by decide) (fun v_5 σ_5 h_5 => ?_)
  obtain ⟨rfl, z_5⟩ := h_5
  have z_5 := z_5.symm
  subst z_5
  refine x_if_ne (tgt := 14) dX8_poll_8 (by decide) (fun c_8 => (absurd (by rw [hs]; rfl) c_8)) (fun c_8 => ?_)
  refine x_bipush (v := -2) dX8_poll_11 (by decide) ?_
  exact s_iret dX8_poll_13 rfl (⟨rfl, rfl⟩)
set_option maxRecDepth 100000 in
theorem k_wet_u (σ : Sg) {n : Nat} (hn : σ 3 5 = nI n) (hn8 : n ≤ 8) (s : Int32) (w : Int32) (hs : inb n s = false) : Cm 12 YX8_wet [.ref 0, .int s, .int w] σ (fun v σ' => v = some (.int (-2)) ∧ σ' = σ) := by
  refine Cm_of (by decide +kernel) (Nat.le_of_ble_eq_true rfl) ?_
  refine x_aload_n dX8_wet_0 rfl ?_
  refine s_getr (ci := 8) (k := 1) (N := 10) (C := RX8) (T := TX8) dX8_wet_1 lfX8_19 inX8 rfl (by decide) (rfl) rfl ?_
  refine x_iload_n dX8_wet_4 rfl ?_
  refine s_callV dX8_wet_5 (k_has σ pl_3 hn hn8 s) rfl w_X3_has lmX8_100 im_X3_has se_X3_has rfl (rfl) rfl (Nat.le_of_ble_eq_true rfl) rfl (by decide) (fun v_5 σ_5 h_5 => ?_)
  obtain ⟨rfl, z_5⟩ := h_5
  have z_5 := z_5.symm
  subst z_5
  refine x_if_ne (tgt := 14) dX8_wet_8 (by decide) (fun c_8 => (absurd (by rw [hs]; rfl) c_8)) (fun c_8 => ?_)
  refine x_bipush (v := -2) dX8_wet_11 (by decide) ?_
  exact s_iret dX8_wet_13 rfl (⟨rfl, rfl⟩)
set_option maxRecDepth 100000 in
theorem k_carry_u (σ : Sg) {n : Nat} (hn : σ 3 5 = nI n) (hn8 : n ≤ 8) (s : Int32)  (hs : inb n s = false) : Cm 12 YX8_carry [.ref 0, .int s] σ (fun v σ' => v = some (.int (-2)) ∧ σ' = σ) := by
  refine Cm_of (by decide +kernel) (Nat.le_of_ble_eq_true rfl) ?_
  refine x_aload_n dX8_carry_0 rfl ?_
  refine s_getr (ci := 8) (k := 1) (N := 10) (C := RX8) (T := TX8) dX8_carry_1 lfX8_19 inX8 rfl (by decide) (rfl) rfl ?_
  refine x_iload_n dX8_carry_4 rfl ?_
  refine s_callV dX8_carry_5 (k_has σ pl_3 hn hn8 s) rfl w_X3_has lmX8_100 im_X3_has se_X3_has rfl (rfl) rfl (Nat.le_of_ble_eq_true rfl) rfl (by decide) (fun v_5 σ_5 h_5 => ?_)
  obtain ⟨rfl, z_5⟩ := h_5
  have z_5 := z_5.symm
  subst z_5
  refine x_if_ne (tgt := 14) dX8_carry_8 (by decide) (fun c_8 => (absurd (by rw [hs]; rfl) c_8)) (fun c_8 => ?_)
  refine x_bipush (v := -2) dX8_carry_11 (by decide) ?_
  exact s_iret dX8_carry_13 rfl (⟨rfl, rfl⟩)
set_option maxRecDepth 100000 in
theorem k_reach_u (σ : Sg) {n : Nat} (hn : σ 3 5 = nI n) (hn8 : n ≤ 8) (s : Int32)  (hs : inb n s = false) : Cm 12 YX8_reach [.ref 0, .int s] σ (fun v σ' => v = some (.int (-2)) ∧ σ' = σ) := by
  refine Cm_of (by decide +kernel) (Nat.le_of_ble_eq_true rfl) ?_
  refine x_aload_n dX8_reach_0 rfl ?_
  refine s_getr (ci := 8) (k := 1) (N := 10) (C := RX8) (T := TX8) dX8_reach_1 lfX8_19 inX8 rfl (by decide) (rfl) rfl ?_
  refine x_iload_n dX8_reach_4 rfl ?_
  refine s_callV dX8_reach_5 (k_has σ pl_3 hn hn8 s) rfl w_X3_has lmX8_100 im_X3_has se_X3_has rfl (rfl) rfl (Nat.le_of_ble_eq_true rfl) rfl (by decide) (fun v_5 σ_5 h_5 => ?_)
  obtain ⟨rfl, z_5⟩ := h_5
  have z_5 := z_5.symm
  subst z_5
  refine x_if_ne (tgt := 14) dX8_reach_8 (by decide) (fun c_8 => (absurd (by rw [hs]; rfl) c_8)) (fun c_8 => ?_)
  refine x_bipush (v := -2) dX8_reach_11 (by decide) ?_
  exact s_iret dX8_reach_13 rfl (⟨rfl, rfl⟩)
set_option maxRecDepth 100000 in
theorem k_polls_u (σ : Sg) {n : Nat} (hn : σ 3 5 = nI n) (hn8 : n ≤ 8) (s : Int32)  (hs : inb n s = false) : Cm 12 YX8_polls [.ref 0, .int s] σ (fun v σ' => v = some (.int (-2)) ∧ σ' = σ) := by
  refine Cm_of (by decide +kernel) (Nat.le_of_ble_eq_true rfl) ?_
  refine x_aload_n dX8_polls_0 rfl ?_
  refine s_getr (ci := 8) (k := 1) (N := 10) (C := RX8) (T := TX8) dX8_polls_1 lfX8_19 inX8 rfl (by decide) (rfl) rfl ?_
  refine x_iload_n dX8_polls_4 rfl ?_
  refine s_callV dX8_polls_5 (k_has σ pl_3 hn hn8 s) rfl w_X3_has lmX8_100 im_X3_has se_X3_has rfl (rfl) rfl (Nat.le_of_ble_eq_true rfl) rfl (by decide) (fun v_5 σ_5 h_5 => ?_)
  obtain ⟨rfl, z_5⟩ := h_5
  have z_5 := z_5.symm
  subst z_5
  refine x_if_ne (tgt := 14) dX8_polls_8 (by decide) (fun c_8 => (absurd (by rw [hs]; rfl) c_8)) (fun c_8 => ?_)
  refine x_bipush (v := -2) dX8_polls_11 (by decide) ?_
  exact s_iret dX8_polls_13 rfl (⟨rfl, rfl⟩)
set_option maxRecDepth 100000 in
theorem k_seen_u (σ : Sg) {n : Nat} (hn : σ 3 5 = nI n) (hn8 : n ≤ 8) (s : Int32) (w : Int32) (hs : inb n s = false) (h1 : ¬ s = -1) : Cm 12 YX8_seen [.ref 0, .int s, .int w] σ (fun v σ' => v = some (.int (-2)) ∧ σ' = σ) := by
  refine Cm_of (by decide +kernel) (Nat.le_of_ble_eq_true rfl) ?_
  refine x_iload_n dX8_seen_0 rfl ?_
  refine x_iconst (v := -1) dX8_seen_1 (by decide) ?_
  refine x_icmp_eq (tgt := 19) dX8_seen_2 (by decide) (fun c_2 => (absurd c_2 h1)) (fun c_2 => ?_)
  refine x_aload_n dX8_seen_5 rfl ?_
  refine s_getr (ci := 8) (k := 1) (N := 10) (C := RX8) (T := TX8) dX8_seen_6 lfX8_19 inX8 rfl (by decide) (rfl) rfl ?_
  refine x_iload_n dX8_seen_9 rfl ?_
  refine s_callV dX8_seen_10 (k_has σ pl_3 hn hn8 s) rfl w_X3_has lmX8_100 im_X3_has se_X3_has rfl (rfl) rfl (Nat.le_of_ble_eq_true rfl) rfl (by decide) (fun v_10 σ_10 h_10 => ?_)
  obtain ⟨rfl, z_10⟩ := h_10
  have z_10 := z_10.symm
  subst z_10
  refine x_if_ne (tgt := 19) dX8_seen_13 (by decide) (fun c_13 => (absurd (by rw [hs]; rfl) c_13)) (fun c_13 => ?_)
  refine x_bipush (v := -2) dX8_seen_16 (by decide) ?_
  exact s_iret dX8_seen_18 rfl (⟨rfl, rfl⟩)
set_option maxRecDepth 100000 in
theorem k_chance_u (σ : Sg) {n : Nat} (hn : σ 3 5 = nI n) (hn8 : n ≤ 8) (s : Int32) (q : Int32) (t : Int32) (hs : inb n s = false) (h1 : ¬ s = -1) : Cm 12 YX8_chance [.ref 0, .int s, .int q, .int t] σ (fun v σ' => v = some (.int (-2)) ∧ σ' = σ) := by
  refine Cm_of (by decide +kernel) (Nat.le_of_ble_eq_true rfl) ?_
  refine x_iload_n dX8_chance_0 rfl ?_
  refine x_iconst (v := -1) dX8_chance_1 (by decide) ?_
  refine x_icmp_eq (tgt := 19) dX8_chance_2 (by decide) (fun c_2 => (absurd c_2 h1)) (fun c_2 => ?_)
  refine x_aload_n dX8_chance_5 rfl ?_
  refine s_getr (ci := 8) (k := 1) (N := 10) (C := RX8) (T := TX8) dX8_chance_6 lfX8_19 inX8 rfl (by decide) (rfl) rfl ?_
  refine x_iload_n dX8_chance_9 rfl ?_
  refine s_callV dX8_chance_10 (k_has σ pl_3 hn hn8 s) rfl w_X3_has lmX8_100 im_X3_has se_X3_has rfl (rfl) rfl (Nat.le_of_ble_eq_true rfl) rfl (by decide) (fun v_10 σ_10 h_10 => ?_)
  obtain ⟨rfl, z_10⟩ := h_10
  have z_10 := z_10.symm
  subst z_10
  refine x_if_ne (tgt := 19) dX8_chance_13 (by decide) (fun c_13 => (absurd (by rw [hs]; rfl) c_13)) (fun c_13 => ?_)
  refine x_bipush (v := -2) dX8_chance_16 (by decide) ?_
  exact s_iret dX8_chance_18 rfl (⟨rfl, rfl⟩)
