/-! ===== RainBallot's calls, 2 ===== -/

set_option maxRecDepth 100000 in
theorem k_hose_o (σ : Sg) {n k : Nat} (hn : σ 3 5 = nI n) (hn8 : n ≤ 8) (hk : k < n) (w : Int32) (h : rgF 1 20 w = false) : Cm 12 YX8_hose [.ref 0, .int (nI k), .int w] σ (fun v σ' => v = some (.int (-3)) ∧ σ' = σ) := by
  refine Cm_of (by decide +kernel) (Nat.le_of_ble_eq_true rfl) ?_
  have ok : ∀ {q : Prop}, ¬ w < 1 → w ≤ 20 → q := fun h1 h2 => by rcases rgF_no h with q | q; exact absurd q h1; exact absurd q (Int32.not_lt.mpr h2)
  refine x_aload_n dX8_hose_0 rfl ?_
  refine s_getr (ci := 8) (k := 1) (N := 10) (C := RX8) (T := TX8) dX8_hose_1 lfX8_19 inX8 rfl (by decide) (rfl) rfl ?_
  refine x_iload_n dX8_hose_4 rfl ?_
  refine s_callV dX8_hose_5 (k_has σ pl_3 hn hn8 (nI k)) rfl w_X3_has lmX8_100 im_X3_has se_X3_has rfl (rfl) rfl (Nat.le_of_ble_eq_true rfl) rfl (by decide) (fun v_5 σ_5 h_5 => ?_)
  obtain ⟨rfl, z_5⟩ := h_5
  have z_5 := z_5.symm
  subst z_5
  refine x_if_ne (tgt := 14) dX8_hose_8 (by decide) (fun c_8 => ?_) (fun c_8 => (absurd c_8 (by rw [inb_nI hk (by omega)]; decide)))
  refine x_iload_n dX8_hose_14 rfl ?_
  refine x_iconst (v := 1) dX8_hose_15 (by decide) ?_
  refine x_icmp_lt (tgt := 25) dX8_hose_16 (by decide) (fun c_16 => ?_) (fun c_16 => ?_)
  · refine x_bipush (v := -3) dX8_hose_25 (by decide) ?_
    exact s_iret dX8_hose_27 rfl (⟨rfl, rfl⟩)
  · refine x_iload_n dX8_hose_19 rfl ?_
    refine x_bipush (v := 20) dX8_hose_20 (by decide) ?_
    refine x_icmp_le (tgt := 28) dX8_hose_22 (by decide) (fun c_22 => (ok c_16 c_22)) (fun c_22 => ?_)
    refine x_bipush (v := -3) dX8_hose_25 (by decide) ?_
    exact s_iret dX8_hose_27 rfl (⟨rfl, rfl⟩)
set_option maxRecDepth 100000 in
theorem k_poll_o (σ : Sg) {n k : Nat} (hn : σ 3 5 = nI n) (hn8 : n ≤ 8) (hk : k < n) (w : Int32) (h : rgF 0 20 w = false) : Cm 12 YX8_poll [.ref 0, .int (nI k), .int w] σ (fun v σ' => v = some (.int (-3)) ∧ σ' = σ) := by
  refine Cm_of (by decide +kernel) (Nat.le_of_ble_eq_true rfl) ?_
  have ok : ∀ {q : Prop}, ¬ w < 0 → w ≤ 20 → q := fun h1 h2 => by rcases rgF_no h with q | q; exact absurd q h1; exact absurd q (Int32.not_lt.mpr h2)
  refine x_aload_n dX8_poll_0 rfl ?_
  refine s_getr (ci := 8) (k := 1) (N := 10) (C := RX8) (T := TX8) dX8_poll_1 lfX8_19 inX8 rfl (by decide) (rfl) rfl ?_
  refine x_iload_n dX8_poll_4 rfl ?_
  refine s_callV dX8_poll_5 (k_has σ pl_3 hn hn8 (nI k)) rfl w_X3_has lmX8_100 im_X3_has se_X3_has rfl (rfl) rfl (Nat.le_of_ble_eq_true rfl) rfl (by decide) (fun v_5 σ_5 h_5 => ?_)
  obtain ⟨rfl, z_5⟩ := h_5
  have z_5 := z_5.symm
  subst z_5
  refine x_if_ne (tgt := 14) dX8_poll_8 (by decide) (fun c_8 => ?_) (fun c_8 => (absurd c_8 (by rw [inb_nI hk (by omega)]; decide)))
  refine x_iload_n dX8_poll_14 rfl ?_
  refine x_if_lt (tgt := 24) dX8_poll_15 (by decide) (fun c_15 => ?_) (fun c_15 => ?_)
  · refine x_bipush (v := -3) dX8_poll_24 (by decide) ?_
    exact s_iret dX8_poll_26 rfl (⟨rfl, rfl⟩)
  · refine x_iload_n dX8_poll_18 rfl ?_
    refine x_bipush (v := 20) dX8_poll_19 (by decide) ?_
    refine x_icmp_le (tgt := 27) dX8_poll_21 (by decide) (fun c_21 => (ok c_15 c_21)) (fun c_21 => ?_)
    refine x_bipush (v := -3) dX8_poll_24 (by decide) ?_
    exact s_iret dX8_poll_26 rfl (⟨rfl, rfl⟩)
set_option maxRecDepth 100000 in
theorem k_as_o (σ : Sg) {n k : Nat} (hn : σ 3 5 = nI n) (hn8 : n ≤ 8) (hk : k < n) (w : Int32) (h : rgF 0 4 w = false) : Cm 12 YX8_as [.ref 0, .int (nI k), .int w] σ (fun v σ' => v = some (.int (-3)) ∧ σ' = σ) := by
  refine Cm_of (by decide +kernel) (Nat.le_of_ble_eq_true rfl) ?_
  have ok : ∀ {q : Prop}, ¬ w < 0 → w ≤ 4 → q := fun h1 h2 => by rcases rgF_no h with q | q; exact absurd q h1; exact absurd q (Int32.not_lt.mpr h2)
  refine x_aload_n dX8_as_0 rfl ?_
  refine s_getr (ci := 8) (k := 1) (N := 10) (C := RX8) (T := TX8) dX8_as_1 lfX8_19 inX8 rfl (by decide) (rfl) rfl ?_
  refine x_iload_n dX8_as_4 rfl ?_
  refine s_callV dX8_as_5 (k_has σ pl_3 hn hn8 (nI k)) rfl w_X3_has lmX8_100 im_X3_has se_X3_has rfl (rfl) rfl (Nat.le_of_ble_eq_true rfl) rfl (by decide) (fun v_5 σ_5 h_5 => ?_)
  obtain ⟨rfl, z_5⟩ := h_5
  have z_5 := z_5.symm
  subst z_5
  refine x_if_ne (tgt := 14) dX8_as_8 (by decide) (fun c_8 => ?_) (fun c_8 => (absurd c_8 (by rw [inb_nI hk (by omega)]; decide)))
  refine x_iload_n dX8_as_14 rfl ?_
  refine x_if_lt (tgt := 23) dX8_as_15 (by decide) (fun c_15 => ?_) (fun c_15 => ?_)
  · refine x_bipush (v := -3) dX8_as_23 (by decide) ?_
    exact s_iret dX8_as_25 rfl (⟨rfl, rfl⟩)
  · refine x_iload_n dX8_as_18 rfl ?_
    refine x_iconst (v := 4) dX8_as_19 (by decide) ?_
    refine x_icmp_le (tgt := 26) dX8_as_20 (by decide) (fun c_20 => (ok c_15 c_20)) (fun c_20 => ?_)
    refine x_bipush (v := -3) dX8_as_23 (by decide) ?_
    exact s_iret dX8_as_25 rfl (⟨rfl, rfl⟩)
set_option maxRecDepth 100000 in
theorem k_wet_o (σ : Sg) {n k : Nat} (hn : σ 3 5 = nI n) (hn8 : n ≤ 8) (hk : k < n) (w : Int32) (h : rgF 0 30 w = false) : Cm 12 YX8_wet [.ref 0, .int (nI k), .int w] σ (fun v σ' => v = some (.int (-3)) ∧ σ' = σ) := by
  refine Cm_of (by decide +kernel) (Nat.le_of_ble_eq_true rfl) ?_
  have ok : ∀ {q : Prop}, ¬ w < 0 → w ≤ 30 → q := fun h1 h2 => by rcases rgF_no h with q | q; exact absurd q h1; exact absurd q (Int32.not_lt.mpr h2)
  refine x_aload_n dX8_wet_0 rfl ?_
  refine s_getr (ci := 8) (k := 1) (N := 10) (C := RX8) (T := TX8) dX8_wet_1 lfX8_19 inX8 rfl (by decide) (rfl) rfl ?_
  refine x_iload_n dX8_wet_4 rfl ?_
  refine s_callV dX8_wet_5 (k_has σ pl_3 hn hn8 (nI k)) rfl w_X3_has lmX8_100 im_X3_has se_X3_has rfl (rfl) rfl (Nat.le_of_ble_eq_true rfl) rfl (by decide) (fun v_5 σ_5 h_5 => ?_)
  obtain ⟨rfl, z_5⟩ := h_5
  have z_5 := z_5.symm
  subst z_5
  refine x_if_ne (tgt := 14) dX8_wet_8 (by decide) (fun c_8 => ?_) (fun c_8 => (absurd c_8 (by rw [inb_nI hk (by omega)]; decide)))
  refine x_iload_n dX8_wet_14 rfl ?_
  refine x_if_lt (tgt := 24) dX8_wet_15 (by decide) (fun c_15 => ?_) (fun c_15 => ?_)
  · refine x_bipush (v := -3) dX8_wet_24 (by decide) ?_
    exact s_iret dX8_wet_26 rfl (⟨rfl, rfl⟩)
  · refine x_iload_n dX8_wet_18 rfl ?_
    refine x_bipush (v := 30) dX8_wet_19 (by decide) ?_
    refine x_icmp_le (tgt := 27) dX8_wet_21 (by decide) (fun c_21 => (ok c_15 c_21)) (fun c_21 => ?_)
    refine x_bipush (v := -3) dX8_wet_24 (by decide) ?_
    exact s_iret dX8_wet_26 rfl (⟨rfl, rfl⟩)
set_option maxRecDepth 100000 in
theorem k_where_o (σ : Sg) (w : Int32) (h : rgF 1 30 w = false) : Cm 12 YX8_where [.ref 0, .int w] σ (fun v σ' => v = some (.int (-3)) ∧ σ' = σ) := by
  refine Cm_of (by decide +kernel) (Nat.le_of_ble_eq_true rfl) ?_
  have ok : ∀ {q : Prop}, ¬ w < 1 → w ≤ 30 → q := fun h1 h2 => by rcases rgF_no h with q | q; exact absurd q h1; exact absurd q (Int32.not_lt.mpr h2)
  refine x_iload_n dX8_where_0 rfl ?_
  refine x_iconst (v := 1) dX8_where_1 (by decide) ?_
  refine x_icmp_lt (tgt := 11) dX8_where_2 (by decide) (fun c_2 => ?_) (fun c_2 => ?_)
  · refine x_bipush (v := -3) dX8_where_11 (by decide) ?_
    exact s_iret dX8_where_13 rfl (⟨rfl, rfl⟩)
  · refine x_iload_n dX8_where_5 rfl ?_
    refine x_bipush (v := 30) dX8_where_6 (by decide) ?_
    refine x_icmp_le (tgt := 14) dX8_where_8 (by decide) (fun c_8 => (ok c_2 c_8)) (fun c_8 => ?_)
    refine x_bipush (v := -3) dX8_where_11 (by decide) ?_
    exact s_iret dX8_where_13 rfl (⟨rfl, rfl⟩)
set_option maxRecDepth 100000 in
theorem k_write_o (σ : Sg) (w : Int32) (h : rgF 0 255 w = false) : Cm 12 YX8_write [.ref 0, .int w] σ (fun v σ' => v = some (.int (-3)) ∧ σ' = σ) := by
  refine Cm_of (by decide +kernel) (Nat.le_of_ble_eq_true rfl) ?_
  have ok : ∀ {q : Prop}, ¬ w < 0 → w ≤ 255 → q := fun h1 h2 => by rcases rgF_no h with q | q; exact absurd q h1; exact absurd q (Int32.not_lt.mpr h2)
  refine x_iload_n dX8_write_0 rfl ?_
  refine x_if_lt (tgt := 11) dX8_write_1 (by decide) (fun c_1 => ?_) (fun c_1 => ?_)
  · refine x_bipush (v := -3) dX8_write_11 (by decide) ?_
    exact s_iret dX8_write_13 rfl (⟨rfl, rfl⟩)
  · refine x_iload_n dX8_write_4 rfl ?_
    refine x_sipush (v := 255) dX8_write_5 (by decide) ?_
    refine x_icmp_le (tgt := 14) dX8_write_8 (by decide) (fun c_8 => (ok c_1 c_8)) (fun c_8 => ?_)
    refine x_bipush (v := -3) dX8_write_11 (by decide) ?_
    exact s_iret dX8_write_13 rfl (⟨rfl, rfl⟩)
set_option maxRecDepth 100000 in
theorem k_street_o (σ : Sg) {n k : Nat} (hn : σ 3 5 = nI n) (hn8 : n ≤ 8) (hk : k < n) (w : Int32) (h : rgF 0 6 w = false) : Cm 12 YX8_street [.ref 0, .int (nI k), .int w] σ (fun v σ' => v = some (.int (-3)) ∧ σ' = σ) := by
  refine Cm_of (by decide +kernel) (Nat.le_of_ble_eq_true rfl) ?_
  refine x_aload_n dX8_street_0 rfl ?_
  refine s_getr (ci := 8) (k := 1) (N := 10) (C := RX8) (T := TX8) dX8_street_1 lfX8_19 inX8 rfl (by decide) (rfl) rfl ?_
  refine x_iload_n dX8_street_4 rfl ?_
  refine s_callV dX8_street_5 (k_has σ pl_3 hn hn8 (nI k)) rfl w_X3_has lmX8_100 im_X3_has se_X3_has rfl (rfl) rfl (Nat.le_of_ble_eq_true rfl) rfl (by decide) (fun v_5 σ_5 h_5 => ?_)
  obtain ⟨rfl, z_5⟩ := h_5
  have z_5 := z_5.symm
  subst z_5
  refine x_if_ne (tgt := 14) dX8_street_8 (by decide) (fun c_8 => ?_) (fun c_8 => (absurd c_8 (by rw [inb_nI hk (by omega)]; decide)))
  refine x_iload_n dX8_street_14 rfl ?_
  refine x_tabOut (tgt := 156) dX8_street_15 (rgF_sw (b := 6) (by decide) h) (by decide) ?_
  refine x_bipush (v := -3) dX8_street_156 (by decide) ?_
  exact s_iret dX8_street_158 rfl (⟨rfl, rfl⟩)
set_option maxRecDepth 100000 in
theorem k_count_o (σ : Sg) (w : Int32) (h : rgF 0 9 w = false) : Cm 12 YX8_count [.ref 0, .int w] σ (fun v σ' => v = some (.int (-3)) ∧ σ' = σ) := by
  refine Cm_of (by decide +kernel) (Nat.le_of_ble_eq_true rfl) ?_
  refine x_iload_n dX8_count_0 rfl ?_
  refine x_tabOut (tgt := 147) dX8_count_1 (rgF_sw (b := 9) (by decide) h) (by decide) ?_
  refine x_bipush (v := -3) dX8_count_147 (by decide) ?_
  exact s_iret dX8_count_149 rfl (⟨rfl, rfl⟩)
/-- what a street is, by what is asked -/
def stV (p : PL) (o : MO) (k : Nat) : Nat → Int32
  | 0 => p.2.2.2.1 k
  | 1 => p.2.2.2.2.1 k
  | 2 => o.2.1 k
  | 3 => o.1 k
  | 4 => p.2.2.2.2.2.2.2 k
  | 5 => chF p o.1 k
  | _ => voF p.1 (chF p o.1) o.2.1 o.2.2.1 0 0 (-1) p.1 k
set_option maxRecDepth 100000 in
theorem k_street (σ : Sg) {n k : Nat} (hn : σ 3 5 = nI n) (hn8 : n ≤ 8) (hk : k < n) {w : Nat} (hw : w < 7) : Cm 12 YX8_street [.ref 0, .int (nI k), .int (nI w)] σ (fun v σ' => v = some (.int (stV (plC n σ) (moC n σ 15) k w)) ∧ frQ σ σ') := by
  refine Cm_of (by decide +kernel) (Nat.le_of_ble_eq_true rfl) ?_
  have hw7 : w = 0 ∨ w = 1 ∨ w = 2 ∨ w = 3 ∨ w = 4 ∨ w = 5 ∨ w = 6 := by omega
  rcases hw7 with rfl | rfl | rfl | rfl | rfl | rfl | rfl

  · skip
    refine x_aload_n dX8_street_0 rfl ?_
    refine s_getr (ci := 8) (k := 1) (N := 10) (C := RX8) (T := TX8) dX8_street_1 lfX8_19 inX8 rfl (by decide) (rfl) rfl ?_
    refine x_iload_n dX8_street_4 rfl ?_
    refine s_callV dX8_street_5 (k_has σ pl_3 hn hn8 (nI k)) rfl w_X3_has lmX8_100 im_X3_has se_X3_has rfl (rfl) rfl (Nat.le_of_ble_eq_true rfl) rfl (by decide) (fun v_5 σ_5 h_5 => ?_)
    obtain ⟨rfl, z_5⟩ := h_5
    have z_5 := z_5.symm
    subst z_5
    refine x_if_ne (tgt := 14) dX8_street_8 (by decide) (fun c_8 => ?_) (fun c_8 => (absurd c_8 (by rw [inb_nI hk (by omega)]; decide)))
    refine x_iload_n dX8_street_14 rfl ?_
    refine x_tabIn (off := 41) (tgt := 56) dX8_street_15 (by decide) (by decide) (by decide) (by decide) ?_
    refine x_aload_n dX8_street_56 rfl ?_
    refine s_getr (ci := 8) (k := 1) (N := 10) (C := RX8) (T := TX8) dX8_street_57 lfX8_19 inX8 rfl (by decide) (rfl) rfl ?_
    refine s_getrN (ci := 3) (k := 0) (N := 8) (C := RX3) (T := TX3) dX8_street_60 lfX8_104 inX3 rfl (by decide) (rfl) rfl ?_
    refine x_iload_n dX8_street_63 rfl ?_
    refine s_iald dX8_street_64 (rfl) (hi := rfl) (hj := by omega) (hn := by decide) ?_
    exact s_iret dX8_street_65 rfl (⟨by rw [← tr_i (f := σ 4) hk]; rfl, frQ_rf σ⟩)
  · skip
    refine x_aload_n dX8_street_0 rfl ?_
    refine s_getr (ci := 8) (k := 1) (N := 10) (C := RX8) (T := TX8) dX8_street_1 lfX8_19 inX8 rfl (by decide) (rfl) rfl ?_
    refine x_iload_n dX8_street_4 rfl ?_
    refine s_callV dX8_street_5 (k_has σ pl_3 hn hn8 (nI k)) rfl w_X3_has lmX8_100 im_X3_has se_X3_has rfl (rfl) rfl (Nat.le_of_ble_eq_true rfl) rfl (by decide) (fun v_5 σ_5 h_5 => ?_)
    obtain ⟨rfl, z_5⟩ := h_5
    have z_5 := z_5.symm
    subst z_5
    refine x_if_ne (tgt := 14) dX8_street_8 (by decide) (fun c_8 => ?_) (fun c_8 => (absurd c_8 (by rw [inb_nI hk (by omega)]; decide)))
    refine x_iload_n dX8_street_14 rfl ?_
    refine x_tabIn (off := 51) (tgt := 66) dX8_street_15 (by decide) (by decide) (by decide) (by decide) ?_
    refine x_aload_n dX8_street_66 rfl ?_
    refine s_getr (ci := 8) (k := 1) (N := 10) (C := RX8) (T := TX8) dX8_street_67 lfX8_19 inX8 rfl (by decide) (rfl) rfl ?_
    refine s_getrN (ci := 3) (k := 1) (N := 8) (C := RX3) (T := TX3) dX8_street_70 lfX8_108 inX3 rfl (by decide) (rfl) rfl ?_
    refine x_iload_n dX8_street_73 rfl ?_
    refine s_iald dX8_street_74 (rfl) (hi := rfl) (hj := by omega) (hn := by decide) ?_
    exact s_iret dX8_street_75 rfl (⟨by rw [← tr_i (f := σ 5) hk]; rfl, frQ_rf σ⟩)
  · skip
    refine x_aload_n dX8_street_0 rfl ?_
    refine s_getr (ci := 8) (k := 1) (N := 10) (C := RX8) (T := TX8) dX8_street_1 lfX8_19 inX8 rfl (by decide) (rfl) rfl ?_
    refine x_iload_n dX8_street_4 rfl ?_
    refine s_callV dX8_street_5 (k_has σ pl_3 hn hn8 (nI k)) rfl w_X3_has lmX8_100 im_X3_has se_X3_has rfl (rfl) rfl (Nat.le_of_ble_eq_true rfl) rfl (by decide) (fun v_5 σ_5 h_5 => ?_)
    obtain ⟨rfl, z_5⟩ := h_5
    have z_5 := z_5.symm
    subst z_5
    refine x_if_ne (tgt := 14) dX8_street_8 (by decide) (fun c_8 => ?_) (fun c_8 => (absurd c_8 (by rw [inb_nI hk (by omega)]; decide)))
    refine x_iload_n dX8_street_14 rfl ?_
    refine x_tabIn (off := 61) (tgt := 76) dX8_street_15 (by decide) (by decide) (by decide) (by decide) ?_
    refine x_aload_n dX8_street_76 rfl ?_
    refine s_getr (ci := 8) (k := 3) (N := 10) (C := RX8) (T := TX8) dX8_street_77 lfX8_29 inX8 rfl (by decide) (rfl) rfl ?_
    refine s_getrN (ci := 1) (k := 1) (N := 4) (C := RX1) (T := TX1) dX8_street_80 lfX8_111 inX1 rfl (by decide) (rfl) rfl ?_
    refine x_iload_n dX8_street_83 rfl ?_
    refine s_iald dX8_street_84 (rfl) (hi := rfl) (hj := by omega) (hn := by decide) ?_
    exact s_iret dX8_street_85 rfl (⟨by rw [← tr_i (f := σ 17) hk]; rfl, frQ_rf σ⟩)
  · skip
    refine x_aload_n dX8_street_0 rfl ?_
    refine s_getr (ci := 8) (k := 1) (N := 10) (C := RX8) (T := TX8) dX8_street_1 lfX8_19 inX8 rfl (by decide) (rfl) rfl ?_
    refine x_iload_n dX8_street_4 rfl ?_
    refine s_callV dX8_street_5 (k_has σ pl_3 hn hn8 (nI k)) rfl w_X3_has lmX8_100 im_X3_has se_X3_has rfl (rfl) rfl (Nat.le_of_ble_eq_true rfl) rfl (by decide) (fun v_5 σ_5 h_5 => ?_)
    obtain ⟨rfl, z_5⟩ := h_5
    have z_5 := z_5.symm
    subst z_5
    refine x_if_ne (tgt := 14) dX8_street_8 (by decide) (fun c_8 => ?_) (fun c_8 => (absurd c_8 (by rw [inb_nI hk (by omega)]; decide)))
    refine x_iload_n dX8_street_14 rfl ?_
    refine x_tabIn (off := 71) (tgt := 86) dX8_street_15 (by decide) (by decide) (by decide) (by decide) ?_
    refine x_aload_n dX8_street_86 rfl ?_
    refine s_getr (ci := 8) (k := 3) (N := 10) (C := RX8) (T := TX8) dX8_street_87 lfX8_29 inX8 rfl (by decide) (rfl) rfl ?_
    refine s_getrN (ci := 1) (k := 0) (N := 4) (C := RX1) (T := TX1) dX8_street_90 lfX8_114 inX1 rfl (by decide) (rfl) rfl ?_
    refine x_iload_n dX8_street_93 rfl ?_
    refine s_iald dX8_street_94 (rfl) (hi := rfl) (hj := by omega) (hn := by decide) ?_
    exact s_iret dX8_street_95 rfl (⟨by rw [← tr_i (f := σ 16) hk]; rfl, frQ_rf σ⟩)
  · skip
    refine x_aload_n dX8_street_0 rfl ?_
    refine s_getr (ci := 8) (k := 1) (N := 10) (C := RX8) (T := TX8) dX8_street_1 lfX8_19 inX8 rfl (by decide) (rfl) rfl ?_
    refine x_iload_n dX8_street_4 rfl ?_
    refine s_callV dX8_street_5 (k_has σ pl_3 hn hn8 (nI k)) rfl w_X3_has lmX8_100 im_X3_has se_X3_has rfl (rfl) rfl (Nat.le_of_ble_eq_true rfl) rfl (by decide) (fun v_5 σ_5 h_5 => ?_)
    obtain ⟨rfl, z_5⟩ := h_5
    have z_5 := z_5.symm
    subst z_5
    refine x_if_ne (tgt := 14) dX8_street_8 (by decide) (fun c_8 => ?_) (fun c_8 => (absurd c_8 (by rw [inb_nI hk (by omega)]; decide)))
    refine x_iload_n dX8_street_14 rfl ?_
    refine x_tabIn (off := 81) (tgt := 96) dX8_street_15 (by decide) (by decide) (by decide) (by decide) ?_
    refine x_aload_n dX8_street_96 rfl ?_
    refine s_getr (ci := 8) (k := 1) (N := 10) (C := RX8) (T := TX8) dX8_street_97 lfX8_19 inX8 rfl (by decide) (rfl) rfl ?_
    refine s_getrN (ci := 3) (k := 4) (N := 8) (C := RX3) (T := TX3) dX8_street_100 lfX8_117 inX3 rfl (by decide) (rfl) rfl ?_
    refine x_iload_n dX8_street_103 rfl ?_
    refine s_iald dX8_street_104 (rfl) (hi := rfl) (hj := by omega) (hn := by decide) ?_
    exact s_iret dX8_street_105 rfl (⟨by rw [← tr_i (f := σ 8) hk]; rfl, frQ_rf σ⟩)
  · skip
    refine x_aload_n dX8_street_0 rfl ?_
    refine s_getr (ci := 8) (k := 1) (N := 10) (C := RX8) (T := TX8) dX8_street_1 lfX8_19 inX8 rfl (by decide) (rfl) rfl ?_
    refine x_iload_n dX8_street_4 rfl ?_
    refine s_callV dX8_street_5 (k_has σ pl_3 hn hn8 (nI k)) rfl w_X3_has lmX8_100 im_X3_has se_X3_has rfl (rfl) rfl (Nat.le_of_ble_eq_true rfl) rfl (by decide) (fun v_5 σ_5 h_5 => ?_)
    obtain ⟨rfl, z_5⟩ := h_5
    have z_5 := z_5.symm
    subst z_5
    refine x_if_ne (tgt := 14) dX8_street_8 (by decide) (fun c_8 => ?_) (fun c_8 => (absurd c_8 (by rw [inb_nI hk (by omega)]; decide)))
    refine x_iload_n dX8_street_14 rfl ?_
    refine x_tabIn (off := 91) (tgt := 106) dX8_street_15 (by decide) (by decide) (by decide) (by decide) ?_
    refine x_aload_n dX8_street_106 rfl ?_
    refine s_getr (ci := 8) (k := 1) (N := 10) (C := RX8) (T := TX8) dX8_street_107 lfX8_19 inX8 rfl (by decide) (rfl) rfl ?_
    refine x_aload_n dX8_street_110 rfl ?_
    refine s_getr (ci := 8) (k := 3) (N := 10) (C := RX8) (T := TX8) dX8_street_111 lfX8_29 inX8 rfl (by decide) (rfl) rfl ?_
    refine x_iload_n dX8_street_114 rfl ?_
    refine s_callS dX8_street_115 (k_choiceOf σ mo_15 hn hn8 hk) rfl w_X0_choiceOf lmX8_120 st_X0_choiceOf rfl (Nat.le_of_ble_eq_true rfl) rfl (by decide) (fun v_115 σ_115 h_115 => ?_)
    obtain ⟨rfl, z_115⟩ := h_115
    have z_115 := z_115.symm
    subst z_115
    exact s_iret dX8_street_118 rfl (⟨rfl, frQ_rf σ⟩)
  · skip
    refine x_aload_n dX8_street_0 rfl ?_
    refine s_getr (ci := 8) (k := 1) (N := 10) (C := RX8) (T := TX8) dX8_street_1 lfX8_19 inX8 rfl (by decide) (rfl) rfl ?_
    refine x_iload_n dX8_street_4 rfl ?_
    refine s_callV dX8_street_5 (k_has σ pl_3 hn hn8 (nI k)) rfl w_X3_has lmX8_100 im_X3_has se_X3_has rfl (rfl) rfl (Nat.le_of_ble_eq_true rfl) rfl (by decide) (fun v_5 σ_5 h_5 => ?_)
    obtain ⟨rfl, z_5⟩ := h_5
    have z_5 := z_5.symm
    subst z_5
    refine x_if_ne (tgt := 14) dX8_street_8 (by decide) (fun c_8 => ?_) (fun c_8 => (absurd c_8 (by rw [inb_nI hk (by omega)]; decide)))
    refine x_iload_n dX8_street_14 rfl ?_
    refine x_tabIn (off := 104) (tgt := 119) dX8_street_15 (by decide) (by decide) (by decide) (by decide) ?_
    refine x_aload_n dX8_street_119 rfl ?_
    refine s_getr (ci := 8) (k := 8) (N := 10) (C := RX8) (T := TX8) dX8_street_120 lfX8_60 inX8 rfl (by decide) (rfl) rfl ?_
    refine x_aload_n dX8_street_123 rfl ?_
    refine s_getr (ci := 8) (k := 1) (N := 10) (C := RX8) (T := TX8) dX8_street_124 lfX8_19 inX8 rfl (by decide) (rfl) rfl ?_
    refine x_aload_n dX8_street_127 rfl ?_
    refine s_getr (ci := 8) (k := 3) (N := 10) (C := RX8) (T := TX8) dX8_street_128 lfX8_29 inX8 rfl (by decide) (rfl) rfl ?_
    refine s_callV dX8_street_131 (k_choose σ mo_15 hn hn8) rfl w_X0_choose lmX8_124 im_X0_choose se_X0_choose rfl (rfl) rfl (Nat.le_of_ble_eq_true rfl) rfl (by decide) (fun v_131 σ_131 h_131 => ?_)
    obtain ⟨rfl, C, hC, rfl⟩ := h_131
    refine x_aload_n dX8_street_134 rfl ?_
    refine s_getr (ci := 8) (k := 8) (N := 10) (C := RX8) (T := TX8) dX8_street_135 lfX8_60 inX8 rfl (by decide) (rfl) rfl ?_
    refine x_aload_n dX8_street_138 rfl ?_
    refine s_getr (ci := 8) (k := 3) (N := 10) (C := RX8) (T := TX8) dX8_street_139 lfX8_29 inX8 rfl (by decide) (rfl) rfl ?_
    refine x_iconst (v := 0) dX8_street_142 (by decide) ?_
    refine s_callV dX8_street_143 (k_tally (home := 0) (ch := chF (plC n σ) (tr n (σ 16))) _ mo_15 (n := n) (by rw [sw_n _ _ (by decide), sg_s]) hn8 (by decide) (fun i hi => by rw [sw_s]; exact hC i hi)) rfl w_X0_tally lmX8_128 im_X0_tally se_X0_tally rfl (rfl) rfl (Nat.le_of_ble_eq_true rfl) rfl (by decide) (fun v_143 σ_143 h_143 => ?_)
    obtain ⟨rfl, V, hV, rfl⟩ := h_143
    refine x_aload_n dX8_street_146 rfl ?_
    refine s_getr (ci := 8) (k := 8) (N := 10) (C := RX8) (T := TX8) dX8_street_147 lfX8_60 inX8 rfl (by decide) (rfl) rfl ?_
    refine s_getrN (ci := 0) (k := 1) (N := 3) (C := RX0) (T := TX0) dX8_street_150 lfX8_132 inX0 rfl (by decide) (rfl) rfl ?_
    refine x_iload_n dX8_street_153 rfl ?_
    refine s_iald dX8_street_154 (rfl) (hi := rfl) (hj := by omega) (hn := by decide) ?_
    exact s_iret dX8_street_155 rfl (⟨by rw [sw_s, hV k hk]; rfl, fun c hc => by rw [sw_n _ _ (by omega), sw_n _ _ (by omega), sg_n _ _ _ (by omega)]⟩)
set_option maxRecDepth 100000 in
theorem k_as (σ : Sg) {n k kd : Nat} (hn : σ 3 5 = nI n) (hn8 : n ≤ 8) (hk : k < n) (hkd : tr n (σ 4) k = nI kd) (hk4 : kd < 4) {t : Nat} (ht : t < 5) : Cm 12 YX8_as [.ref 0, .int (nI k), .int (nI t)] σ (fun v σ' => v = some (.int (if unF kd t = true then wantF (plC n σ).2.2.2.1 (plC n σ).2.2.2.2.1 k else -4)) ∧ σ' = σ) := by
  refine Cm_of (by decide +kernel) (Nat.le_of_ble_eq_true rfl) ?_
  have e : σ 4 k = nI kd := by rw [← tr_i (f := σ 4) hk]; exact hkd
  refine x_aload_n dX8_as_0 rfl ?_
  refine s_getr (ci := 8) (k := 1) (N := 10) (C := RX8) (T := TX8) dX8_as_1 lfX8_19 inX8 rfl (by decide) (rfl) rfl ?_
  refine x_iload_n dX8_as_4 rfl ?_
  refine s_callV dX8_as_5 (k_has σ pl_3 hn hn8 (nI k)) rfl w_X3_has lmX8_100 im_X3_has se_X3_has rfl (rfl) rfl (Nat.le_of_ble_eq_true rfl) rfl (by decide) (fun v_5 σ_5 h_5 => ?_)
  obtain ⟨rfl, z_5⟩ := h_5
  have z_5 := z_5.symm
  subst z_5
  refine x_if_ne (tgt := 14) dX8_as_8 (by decide) (fun c_8 => ?_) (fun c_8 => (absurd c_8 (by rw [inb_nI hk (by omega)]; decide)))
  refine x_iload_n dX8_as_14 rfl ?_
  refine x_if_lt (tgt := 23) dX8_as_15 (by decide) (fun c_15 => (absurd c_15 (nI_pos (by omega)))) (fun c_15 => ?_)
  refine x_iload_n dX8_as_18 rfl ?_
  refine x_iconst (v := 4) dX8_as_19 (by decide) ?_
  refine x_icmp_le (tgt := 26) dX8_as_20 (by decide) (fun c_20 => ?_) (fun c_20 => (absurd (show nI t ≤ nI 4 from nI_le (by omega) (by decide)) c_20))
  refine x_aload_n dX8_as_26 rfl ?_
  refine s_getr (ci := 8) (k := 1) (N := 10) (C := RX8) (T := TX8) dX8_as_27 lfX8_19 inX8 rfl (by decide) (rfl) rfl ?_
  refine s_getrN (ci := 3) (k := 0) (N := 8) (C := RX3) (T := TX3) dX8_as_30 lfX8_104 inX3 rfl (by decide) (rfl) rfl ?_
  refine x_iload_n dX8_as_33 rfl ?_
  refine s_iald dX8_as_34 (rfl) (hi := rfl) (hj := by omega) (hn := by decide) ?_
  rw [e]
  refine x_iload_n dX8_as_35 rfl ?_
  refine s_callS dX8_as_36 (k_isUnder σ hk4 ht) rfl w_X8_isUnder lmX8_135 st_X8_isUnder rfl (Nat.le_of_ble_eq_true rfl) rfl (by decide) (fun v_36 σ_36 h_36 => ?_)
  obtain ⟨rfl, z_36⟩ := h_36
  have z_36 := z_36.symm
  subst z_36
  refine x_if_eq (tgt := 53) dX8_as_39 (by decide) (fun c_39 => ?_) (fun c_39 => ?_)
  · refine x_bipush (v := -4) dX8_as_53 (by decide) ?_
    exact s_iret dX8_as_55 rfl (by first
      | exact ⟨by rw [if_neg (fun h => by rw [h] at c_39; exact absurd c_39 (by decide))], rfl⟩
      | exact ⟨by rw [if_pos (bI_n c_39)]; rfl, rfl⟩)
  · refine x_aload_n dX8_as_42 rfl ?_
    refine s_getr (ci := 8) (k := 1) (N := 10) (C := RX8) (T := TX8) dX8_as_43 lfX8_19 inX8 rfl (by decide) (rfl) rfl ?_
    refine x_iload_n dX8_as_46 rfl ?_
    refine s_callV dX8_as_47 (k_wants σ hn hn8 hk) rfl w_X3_wants lmX8_139 im_X3_wants se_X3_wants rfl (rfl) rfl (Nat.le_of_ble_eq_true rfl) rfl (by decide) (fun v_47 σ_47 h_47 => ?_)
    obtain ⟨rfl, z_47⟩ := h_47
    have z_47 := z_47.symm
    subst z_47
    refine x_goto (tgt := 55) dX8_as_50 (by decide) ?_
    exact s_iret dX8_as_55 rfl (by first
      | exact ⟨by rw [if_neg (fun h => by rw [h] at c_39; exact absurd c_39 (by decide))], rfl⟩
      | exact ⟨by rw [if_pos (bI_n c_39)]; rfl, rfl⟩)
