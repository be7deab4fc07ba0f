/-! ===== RainBallot's calls, 4 ===== -/

theorem vn_c {c : Nat} (h : c < 256) : vp_nar .char ((nI c).toUInt32 % 65536).toInt32 = nI c := by
  rw [(sb_byte c h).2.1]
  unfold vp_nar
  rw [(pk_charN (q := c) (by omega)).1]
set_option maxRecDepth 100000 in
theorem k_txadd (σ : Sg) {len c : Nat} (h1 : σ 1 1 = nI len) (h2 : len ≤ 160) (hc : c < 256) : Cm 0 YX7_add [.ref 1, .int ((nI c).toUInt32 % 65536).toInt32] σ (fun v σ' => (len = 160 ∧ v = some (.int 0) ∧ σ' = σ) ∨ (len < 160 ∧ v = some (.int 1) ∧ σ' = sg (sg σ 2 len (nI c)) 1 1 (nI (len + 1)))) := by
  refine Cm_of (by decide +kernel) (Nat.le_of_ble_eq_true rfl) ?_
  rcases Nat.lt_or_ge len 160 with h3 | h3
  · skip
    refine x_aload_n dX7_add_0 rfl ?_
    refine s_geti (ci := 7) (k := 1) (N := 5) (C := RX7) (T := TX7) dX7_add_1 lfX7_15 inX7 rfl (by decide) (rfl) rfl ?_
    refine x_sipush (v := 160) dX7_add_4 (by decide) ?_
    refine x_icmp_lt (tgt := 12) dX7_add_7 (by decide) (fun c_7 => ?_) (fun c_7 => (absurd (by rw [h1]; exact (show nI len < nI 160 from nI_lt h3 (by decide))) c_7))
    refine x_aload_n dX7_add_12 rfl ?_
    refine s_getr (ci := 7) (k := 0) (N := 5) (C := RX7) (T := TX7) dX7_add_13 lfX7_9 inX7 rfl (by decide) (rfl) rfl ?_
    refine x_aload_n dX7_add_16 rfl ?_
    refine s_geti (ci := 7) (k := 1) (N := 5) (C := RX7) (T := TX7) dX7_add_17 lfX7_15 inX7 rfl (by decide) (rfl) rfl ?_
    refine x_iload_n dX7_add_20 rfl ?_
    refine s_cast dX7_add_21 (rfl) (hi := h1) (hj := by omega) (hn := by decide) ?_
    refine x_aload_n dX7_add_22 rfl ?_
    refine x_dup dX7_add_23 rfl ?_
    refine s_geti (ci := 7) (k := 1) (N := 5) (C := RX7) (T := TX7) dX7_add_24 lfX7_15 inX7 rfl (by decide) (rfl) rfl ?_
    refine x_iconst (v := 1) dX7_add_27 (by decide) ?_
    refine x_iadd dX7_add_28 ?_
    rw [vn_c hc, show sg σ 2 len (nI c) 1 1 = nI len by rw [sg_n _ _ _ (by decide)]; exact h1, nI_1]
    refine s_puti (ci := 7) (k := 1) (N := 5) (C := RX7) (T := TX7) (ty0 := tyX7) dX7_add_29 lfX7_15 inX7 tyX7_ok nmX7 rfl (by decide) rfl rfl (rfl) rfl ?_
    refine x_iconst (v := 1) dX7_add_32 (by decide) ?_
    exact s_zret dX7_add_33 rfl (by first | exact Or.inl rfl | exact Or.inr rfl | assumption) (Or.inr ⟨h3, rfl, rfl⟩)
  · obtain rfl : len = 160 := by omega
    refine x_aload_n dX7_add_0 rfl ?_
    refine s_geti (ci := 7) (k := 1) (N := 5) (C := RX7) (T := TX7) dX7_add_1 lfX7_15 inX7 rfl (by decide) (rfl) rfl ?_
    refine x_sipush (v := 160) dX7_add_4 (by decide) ?_
    refine x_icmp_lt (tgt := 12) dX7_add_7 (by decide) (fun c_7 => (absurd c_7 (by rw [h1]; decide))) (fun c_7 => ?_)
    refine x_iconst (v := 0) dX7_add_10 (by decide) ?_
    exact s_zret dX7_add_11 rfl (by first | exact Or.inl rfl | exact Or.inr rfl | assumption) (Or.inl ⟨rfl, rfl, rfl⟩)
set_option maxRecDepth 100000 in
theorem k_write (σ : Sg) {len c : Nat} (h1 : σ 1 1 = nI len) (h2 : len ≤ 160) (hc : c < 256) : Cm 12 YX8_write [.ref 0, .int (nI c)] σ (fun v σ' => (len = 160 ∧ v = some (.int (-5)) ∧ σ' = σ) ∨ (len < 160 ∧ v = some (.int (nI (len + 1))) ∧ σ' = sg (sg σ 2 len (nI c)) 1 1 (nI (len + 1)))) := by
  refine Cm_of (by decide +kernel) (Nat.le_of_ble_eq_true rfl) ?_
  have hr := k_txadd σ h1 h2 hc
  refine x_iload_n dX8_write_0 rfl ?_
  refine x_if_lt (tgt := 11) dX8_write_1 (by decide) (fun c_1 => (absurd c_1 (nI_pos (by omega)))) (fun c_1 => ?_)
  refine x_iload_n dX8_write_4 rfl ?_
  refine x_sipush (v := 255) dX8_write_5 (by decide) ?_
  refine x_icmp_le (tgt := 14) dX8_write_8 (by decide) (fun c_8 => ?_) (fun c_8 => (absurd (show nI c ≤ nI 255 from nI_le (by omega) (by decide)) c_8))
  refine x_aload_n dX8_write_14 rfl ?_
  refine s_getr (ci := 8) (k := 0) (N := 10) (C := RX8) (T := TX8) dX8_write_15 lfX8_10 inX8 rfl (by decide) (rfl) rfl ?_
  refine x_iload_n dX8_write_18 rfl ?_
  refine x_i2c dX8_write_19 ?_
  refine s_callV dX8_write_20 (hr) rfl w_X7_add lmX8_71 im_X7_add se_X7_add rfl (rfl) rfl (Nat.le_of_ble_eq_true rfl) rfl (by decide) (fun v_20 σ_20 h_20 => ?_)
  skip
  rcases h_20 with ⟨g1, rfl, rfl⟩ | ⟨g1, rfl, rfl⟩
  · skip
    refine x_if_eq (tgt := 36) dX8_write_23 (by decide) (fun c_23 => ?_) (fun c_23 => (absurd (by decide) c_23))
    refine x_bipush (v := -5) dX8_write_36 (by decide) ?_
    exact s_iret dX8_write_38 rfl (Or.inl ⟨g1, rfl, rfl⟩)
  · skip
    refine x_if_eq (tgt := 36) dX8_write_23 (by decide) (fun c_23 => (absurd c_23 (by decide))) (fun c_23 => ?_)
    refine x_aload_n dX8_write_26 rfl ?_
    refine s_getr (ci := 8) (k := 0) (N := 10) (C := RX8) (T := TX8) dX8_write_27 lfX8_10 inX8 rfl (by decide) (rfl) rfl ?_
    refine s_getiN (ci := 7) (k := 1) (N := 5) (C := RX7) (T := TX7) dX8_write_30 lfX8_75 inX7 rfl (by decide) (rfl) rfl ?_
    refine x_goto (tgt := 38) dX8_write_33 (by decide) ?_
    exact s_iret dX8_write_38 rfl (Or.inr ⟨g1, by rw [sg_s], rfl⟩)
set_option maxRecDepth 100000 in
theorem k_erase (σ : Sg) : Cm 12 YX8_erase [.ref 0] σ (fun v σ' => v = some (.int (σ 1 1)) ∧ σ' = sg σ 1 1 0) := by
  refine Cm_of (by decide +kernel) (Nat.le_of_ble_eq_true rfl) ?_
  refine x_aload_n dX8_erase_0 rfl ?_
  refine s_getr (ci := 8) (k := 0) (N := 10) (C := RX8) (T := TX8) dX8_erase_1 lfX8_10 inX8 rfl (by decide) (rfl) rfl ?_
  refine s_getiN (ci := 7) (k := 1) (N := 5) (C := RX7) (T := TX7) dX8_erase_4 lfX8_75 inX7 rfl (by decide) (rfl) rfl ?_
  refine x_istore_n dX8_erase_7 (Nat.le_of_ble_eq_true rfl) rfl ?_
  refine x_aload_n dX8_erase_8 rfl ?_
  refine s_getr (ci := 8) (k := 0) (N := 10) (C := RX8) (T := TX8) dX8_erase_9 lfX8_10 inX8 rfl (by decide) (rfl) rfl ?_
  refine x_iconst (v := 0) dX8_erase_12 (by decide) ?_
  refine s_putiN (ci := 7) (k := 1) (N := 5) (C := RX7) (T := TX7) (ty0 := tyX7) dX8_erase_13 lfX8_75 inX7 tyX7_ok nmX7 rfl (by decide) rfl rfl (rfl) rfl ?_
  refine x_iload_n dX8_erase_16 rfl ?_
  exact s_iret dX8_erase_17 rfl (⟨rfl, rfl⟩)
set_option maxRecDepth 100000 in
theorem k_forget (σ : Sg) : Cm 12 YX8_forget [.ref 0] σ (fun v σ' => v = some (.int (σ 56 2)) ∧ σ' = sg σ 56 2 0) := by
  refine Cm_of (by decide +kernel) (Nat.le_of_ble_eq_true rfl) ?_
  refine x_aload_n dX8_forget_0 rfl ?_
  refine s_getr (ci := 8) (k := 7) (N := 10) (C := RX8) (T := TX8) dX8_forget_1 lfX8_53 inX8 rfl (by decide) (rfl) rfl ?_
  refine s_getiN (ci := 6) (k := 2) (N := 3) (C := RX6) (T := TX6) dX8_forget_4 lfX8_94 inX6 rfl (by decide) (rfl) rfl ?_
  refine x_istore_n dX8_forget_7 (Nat.le_of_ble_eq_true rfl) rfl ?_
  refine x_aload_n dX8_forget_8 rfl ?_
  refine s_getr (ci := 8) (k := 7) (N := 10) (C := RX8) (T := TX8) dX8_forget_9 lfX8_53 inX8 rfl (by decide) (rfl) rfl ?_
  refine x_iconst (v := 0) dX8_forget_12 (by decide) ?_
  refine s_putiN (ci := 6) (k := 2) (N := 3) (C := RX6) (T := TX6) (ty0 := tyX6) dX8_forget_13 lfX8_94 inX6 tyX6_ok nmX6 rfl (by decide) rfl rfl (rfl) rfl ?_
  refine x_iload_n dX8_forget_16 rfl ?_
  exact s_iret dX8_forget_17 rfl (⟨rfl, rfl⟩)
/-- a street or none -/
def inq (n : Nat) (s : Int32) : Prop := s = -1 ∨ ∃ k, k < n ∧ s = nI k
set_option maxRecDepth 100000 in
theorem k_seen_o (σ : Sg) {n : Nat} (hn : σ 3 5 = nI n) (hn8 : n ≤ 8) (s : Int32) (hs : inq n s) (w : Int32) (h : rgF 1 20 w = false) : Cm 12 YX8_seen [.ref 0, .int s, .int w] σ (fun v σ' => v = some (.int (-3)) ∧ σ' = σ) := by
  refine Cm_of (by decide +kernel) (Nat.le_of_ble_eq_true rfl) ?_
  have ok : ∀ {q : Prop}, ¬ w < 1 → w ≤ 20 → q := fun h1 h2 => by rcases rgF_no h with q | q; exact absurd q h1; exact absurd q (Int32.not_lt.mpr h2)
  have hb : ¬ s = -1 → inb n s = true := fun h1 => by rcases hs with q | ⟨k, hk, rfl⟩; exact absurd q h1; exact inb_nI hk (by omega)
  refine x_iload_n dX8_seen_0 rfl ?_
  refine x_iconst (v := -1) dX8_seen_1 (by decide) ?_
  refine x_icmp_eq (tgt := 19) dX8_seen_2 (by decide) (fun c_2 => ?_) (fun c_2 => ?_)
  · refine x_iload_n dX8_seen_19 rfl ?_
    refine x_iconst (v := 1) dX8_seen_20 (by decide) ?_
    refine x_icmp_lt (tgt := 30) dX8_seen_21 (by decide) (fun c_21 => ?_) (fun c_21 => ?_)
    · refine x_bipush (v := -3) dX8_seen_30 (by decide) ?_
      exact s_iret dX8_seen_32 rfl (⟨rfl, rfl⟩)
    · refine x_iload_n dX8_seen_24 rfl ?_
      refine x_bipush (v := 20) dX8_seen_25 (by decide) ?_
      refine x_icmp_le (tgt := 33) dX8_seen_27 (by decide) (fun c_27 => (ok c_21 c_27)) (fun c_27 => ?_)
      refine x_bipush (v := -3) dX8_seen_30 (by decide) ?_
      exact s_iret dX8_seen_32 rfl (⟨rfl, rfl⟩)
  · refine x_aload_n dX8_seen_5 rfl ?_
    refine s_getr (ci := 8) (k := 1) (N := 10) (C := RX8) (T := TX8) dX8_seen_6 lfX8_19 inX8 rfl (by decide) (rfl) rfl ?_
    refine x_iload_n dX8_seen_9 rfl ?_
    refine s_callV dX8_seen_10 (k_has σ pl_3 hn hn8 s) rfl w_X3_has lmX8_100 im_X3_has se_X3_has rfl (rfl) rfl (Nat.le_of_ble_eq_true rfl) rfl (by decide) (fun v_10 σ_10 h_10 => ?_)
    obtain ⟨rfl, z_10⟩ := h_10
    have z_10 := z_10.symm
    subst z_10
    refine x_if_ne (tgt := 19) dX8_seen_13 (by decide) (fun c_13 => ?_) (fun c_13 => (absurd c_13 (by rw [hb c_2]; decide)))
    refine x_iload_n dX8_seen_19 rfl ?_
    refine x_iconst (v := 1) dX8_seen_20 (by decide) ?_
    refine x_icmp_lt (tgt := 30) dX8_seen_21 (by decide) (fun c_21 => ?_) (fun c_21 => ?_)
    · refine x_bipush (v := -3) dX8_seen_30 (by decide) ?_
      exact s_iret dX8_seen_32 rfl (⟨rfl, rfl⟩)
    · refine x_iload_n dX8_seen_24 rfl ?_
      refine x_bipush (v := 20) dX8_seen_25 (by decide) ?_
      refine x_icmp_le (tgt := 33) dX8_seen_27 (by decide) (fun c_27 => (ok c_21 c_27)) (fun c_27 => ?_)
      refine x_bipush (v := -3) dX8_seen_30 (by decide) ?_
      exact s_iret dX8_seen_32 rfl (⟨rfl, rfl⟩)
set_option maxRecDepth 100000 in
theorem k_seen (σ : Sg) {n q : Nat} (hn : σ 3 5 = nI n) (hn8 : n ≤ 8) (s : Int32) (hs : inq n s) (hq : σ 56 2 = nI q) (hq6 : q ≤ 6) {w : Nat} (hw1 : 1 ≤ w) (hw2 : w ≤ 20) : Cm 12 YX8_seen [.ref 0, .int s, .int (nI w)] σ (fun v σ' => (q = 6 ∧ v = some (.int (-5)) ∧ σ' = σ) ∨ (q < 6 ∧ v = some (.int (nI (q + 1))) ∧ σ' 56 2 = nI (q + 1) ∧ σ' 57 = upd (σ 57) q s ∧ σ' 58 = upd (σ 58) q (nI w) ∧ ∀ c, ¬ (56 ≤ c ∧ c ≤ 58) → σ' c = σ c)) := by
  refine Cm_of (by decide +kernel) (Nat.le_of_ble_eq_true rfl) ?_
  have hb : ¬ s = -1 → inb n s = true := fun h1 => by rcases hs with q | ⟨k, hk, rfl⟩; exact absurd q h1; exact inb_nI hk (by omega)
  have hr := k_siadd σ hq hq6 s (nI w)
  have tail : Ex (YX8_seen, 12, xB0, none) 19 [.ref 0, .int s, .int (nI w)] [] (xMs σ) (xQ (fun v σ' => (q = 6 ∧ v = some (.int (-5)) ∧ σ' = σ) ∨ (q < 6 ∧ v = some (.int (nI (q + 1))) ∧ σ' 56 2 = nI (q + 1) ∧ σ' 57 = upd (σ 57) q s ∧ σ' 58 = upd (σ 58) q (nI w) ∧ ∀ c, ¬ (56 ≤ c ∧ c ≤ 58) → σ' c = σ c))) := by
    skip
    refine x_iload_n dX8_seen_19 rfl ?_
    refine x_iconst (v := 1) dX8_seen_20 (by decide) ?_
    refine x_icmp_lt (tgt := 30) dX8_seen_21 (by decide) (fun c_21 => (absurd c_21 (show ¬ nI w < nI 1 from nI_nlt hw1 (by omega)))) (fun c_21 => ?_)
    refine x_iload_n dX8_seen_24 rfl ?_
    refine x_bipush (v := 20) dX8_seen_25 (by decide) ?_
    refine x_icmp_le (tgt := 33) dX8_seen_27 (by decide) (fun c_27 => ?_) (fun c_27 => (absurd (show nI w ≤ nI 20 from nI_le hw2 (by decide)) c_27))
    refine x_aload_n dX8_seen_33 rfl ?_
    refine s_getr (ci := 8) (k := 7) (N := 10) (C := RX8) (T := TX8) dX8_seen_34 lfX8_53 inX8 rfl (by decide) (rfl) rfl ?_
    refine x_iload_n dX8_seen_37 rfl ?_
    refine x_iload_n dX8_seen_38 rfl ?_
    refine s_callV dX8_seen_39 (hr) rfl w_X6_add lmX8_214 im_X6_add se_X6_add rfl (rfl) rfl (Nat.le_of_ble_eq_true rfl) rfl (by decide) (fun v_39 σ_39 h_39 => ?_)
    skip
    rcases h_39 with ⟨g1, rfl, rfl⟩ | ⟨g1, rfl, g2, g3, g4, g5⟩
    · skip
      refine x_if_eq (tgt := 55) dX8_seen_42 (by decide) (fun c_42 => ?_) (fun c_42 => (absurd (by decide) c_42))
      refine x_bipush (v := -5) dX8_seen_55 (by decide) ?_
      exact s_iret dX8_seen_57 rfl (Or.inl ⟨g1, rfl, rfl⟩)
    · skip
      refine x_if_eq (tgt := 55) dX8_seen_42 (by decide) (fun c_42 => (absurd c_42 (by decide))) (fun c_42 => ?_)
      refine x_aload_n dX8_seen_45 rfl ?_
      refine s_getr (ci := 8) (k := 7) (N := 10) (C := RX8) (T := TX8) dX8_seen_46 lfX8_53 inX8 rfl (by decide) (rfl) rfl ?_
      refine s_getiN (ci := 6) (k := 2) (N := 3) (C := RX6) (T := TX6) dX8_seen_49 lfX8_94 inX6 rfl (by decide) (rfl) rfl ?_
      refine x_goto (tgt := 57) dX8_seen_52 (by decide) ?_
      exact s_iret dX8_seen_57 rfl (Or.inr ⟨g1, by rw [g2], g2, g3, g4, g5⟩)
  refine x_iload_n dX8_seen_0 rfl ?_
  refine x_iconst (v := -1) dX8_seen_1 (by decide) ?_
  refine x_icmp_eq (tgt := 19) dX8_seen_2 (by decide) (fun c_2 => ?_) (fun c_2 => ?_)
  · exact tail
  · refine x_aload_n dX8_seen_5 rfl ?_
    refine s_getr (ci := 8) (k := 1) (N := 10) (C := RX8) (T := TX8) dX8_seen_6 lfX8_19 inX8 rfl (by decide) (rfl) rfl ?_
    refine x_iload_n dX8_seen_9 rfl ?_
    refine s_callV dX8_seen_10 (k_has σ pl_3 hn hn8 s) rfl w_X3_has lmX8_100 im_X3_has se_X3_has rfl (rfl) rfl (Nat.le_of_ble_eq_true rfl) rfl (by decide) (fun v_10 σ_10 h_10 => ?_)
    obtain ⟨rfl, z_10⟩ := h_10
    have z_10 := z_10.symm
    subst z_10
    refine x_if_ne (tgt := 19) dX8_seen_13 (by decide) (fun c_13 => ?_) (fun c_13 => (absurd c_13 (by rw [hb c_2]; decide)))
    exact tail
/-- what can be counted -/
def coV (p : PL) (o : MO) (q u len : Nat) : Nat → Int32
  | 0 => nI p.1
  | 1 => o.2.2.2
  | 2 => p.2.1
  | 3 => p.2.2.1
  | 4 => smF o.1 p.1
  | 5 => nI (stF (saF o.1 p.2.2.2.1 p.2.2.2.2.1) p.1)
  | 6 => o.2.2.1
  | 7 => nI q
  | 8 => nI u
  | _ => nI len
set_option maxRecDepth 100000 in
theorem k_count (σ : Sg) {n q u len w : Nat} (hn : σ 3 5 = nI n) (hn8 : n ≤ 8) (hq : σ 56 2 = nI q) (hu : σ 21 2 = nI u) (hl : σ 1 1 = nI len) (hw : w < 10) : Cm 12 YX8_count [.ref 0, .int (nI w)] σ (fun v σ' => v = some (.int (coV (plC n σ) (moC n σ 15) q u len w)) ∧ σ' = σ) := by
  refine Cm_of (by decide +kernel) (Nat.le_of_ble_eq_true rfl) ?_
  have hw10 : w = 0 ∨ w = 1 ∨ w = 2 ∨ w = 3 ∨ w = 4 ∨ w = 5 ∨ w = 6 ∨ w = 7 ∨ w = 8 ∨ w = 9 := by omega
  rcases hw10 with rfl | rfl | rfl | rfl | rfl | rfl | rfl | rfl | rfl | rfl

  · skip
    refine x_iload_n dX8_count_0 rfl ?_
    refine x_tabIn (off := 55) (tgt := 56) dX8_count_1 (by decide) (by decide) (by decide) (by decide) ?_
    refine x_aload_n dX8_count_56 rfl ?_
    refine s_getr (ci := 8) (k := 1) (N := 10) (C := RX8) (T := TX8) dX8_count_57 lfX8_19 inX8 rfl (by decide) (rfl) rfl ?_
    refine s_getiN (ci := 3) (k := 5) (N := 8) (C := RX3) (T := TX3) dX8_count_60 lfX8_187 inX3 rfl (by decide) (rfl) rfl ?_
    exact s_iret dX8_count_63 rfl (by rw [hn]; exact ⟨rfl, rfl⟩)
  · skip
    refine x_iload_n dX8_count_0 rfl ?_
    refine x_tabIn (off := 63) (tgt := 64) dX8_count_1 (by decide) (by decide) (by decide) (by decide) ?_
    refine x_aload_n dX8_count_64 rfl ?_
    refine s_getr (ci := 8) (k := 3) (N := 10) (C := RX8) (T := TX8) dX8_count_65 lfX8_29 inX8 rfl (by decide) (rfl) rfl ?_
    refine s_getiN (ci := 1) (k := 3) (N := 4) (C := RX1) (T := TX1) dX8_count_68 lfX8_143 inX1 rfl (by decide) (rfl) rfl ?_
    exact s_iret dX8_count_71 rfl (⟨rfl, rfl⟩)
  · skip
    refine x_iload_n dX8_count_0 rfl ?_
    refine x_tabIn (off := 71) (tgt := 72) dX8_count_1 (by decide) (by decide) (by decide) (by decide) ?_
    refine x_aload_n dX8_count_72 rfl ?_
    refine s_getr (ci := 8) (k := 1) (N := 10) (C := RX8) (T := TX8) dX8_count_73 lfX8_19 inX8 rfl (by decide) (rfl) rfl ?_
    refine s_getiN (ci := 3) (k := 6) (N := 8) (C := RX3) (T := TX3) dX8_count_76 lfX8_231 inX3 rfl (by decide) (rfl) rfl ?_
    exact s_iret dX8_count_79 rfl (⟨rfl, rfl⟩)
  · skip
    refine x_iload_n dX8_count_0 rfl ?_
    refine x_tabIn (off := 79) (tgt := 80) dX8_count_1 (by decide) (by decide) (by decide) (by decide) ?_
    refine x_aload_n dX8_count_80 rfl ?_
    refine s_getr (ci := 8) (k := 1) (N := 10) (C := RX8) (T := TX8) dX8_count_81 lfX8_19 inX8 rfl (by decide) (rfl) rfl ?_
    refine s_getiN (ci := 3) (k := 7) (N := 8) (C := RX3) (T := TX3) dX8_count_84 lfX8_234 inX3 rfl (by decide) (rfl) rfl ?_
    exact s_iret dX8_count_87 rfl (⟨rfl, rfl⟩)
  · skip
    refine x_iload_n dX8_count_0 rfl ?_
    refine x_tabIn (off := 87) (tgt := 88) dX8_count_1 (by decide) (by decide) (by decide) (by decide) ?_
    refine x_aload_n dX8_count_88 rfl ?_
    refine s_getr (ci := 8) (k := 3) (N := 10) (C := RX8) (T := TX8) dX8_count_89 lfX8_29 inX8 rfl (by decide) (rfl) rfl ?_
    refine x_aload_n dX8_count_92 rfl ?_
    refine s_getr (ci := 8) (k := 1) (N := 10) (C := RX8) (T := TX8) dX8_count_93 lfX8_19 inX8 rfl (by decide) (rfl) rfl ?_
    refine s_getiN (ci := 3) (k := 5) (N := 8) (C := RX3) (T := TX3) dX8_count_96 lfX8_187 inX3 rfl (by decide) (rfl) rfl ?_
    rw [hn]
    refine s_callV dX8_count_99 (k_allWater σ hn8) rfl w_X1_allWater lmX8_237 im_X1_allWater se_X1_allWater rfl (rfl) rfl (Nat.le_of_ble_eq_true rfl) rfl (by decide) (fun v_99 σ_99 h_99 => ?_)
    obtain ⟨rfl, z_99⟩ := h_99
    have z_99 := z_99.symm
    subst z_99
    exact s_iret dX8_count_102 rfl (⟨rfl, rfl⟩)
  · skip
    refine x_iload_n dX8_count_0 rfl ?_
    refine x_tabIn (off := 102) (tgt := 103) dX8_count_1 (by decide) (by decide) (by decide) (by decide) ?_
    refine x_aload_n dX8_count_103 rfl ?_
    refine s_getr (ci := 8) (k := 3) (N := 10) (C := RX8) (T := TX8) dX8_count_104 lfX8_29 inX8 rfl (by decide) (rfl) rfl ?_
    refine x_aload_n dX8_count_107 rfl ?_
    refine s_getr (ci := 8) (k := 1) (N := 10) (C := RX8) (T := TX8) dX8_count_108 lfX8_19 inX8 rfl (by decide) (rfl) rfl ?_
    refine s_callV dX8_count_111 (k_contentBits σ mo_15 hn hn8) rfl w_X1_contentBits lmX8_240 im_X1_contentBits se_X1_contentBits rfl (mo_15.1) rfl (Nat.le_of_ble_eq_true rfl) rfl (by decide) (fun v_111 σ_111 h_111 => ?_)
    obtain ⟨rfl, z_111⟩ := h_111
    have z_111 := z_111.symm
    subst z_111
    exact s_iret dX8_count_114 rfl (⟨rfl, rfl⟩)
  · skip
    refine x_iload_n dX8_count_0 rfl ?_
    refine x_tabIn (off := 114) (tgt := 115) dX8_count_1 (by decide) (by decide) (by decide) (by decide) ?_
    refine x_aload_n dX8_count_115 rfl ?_
    refine s_getr (ci := 8) (k := 3) (N := 10) (C := RX8) (T := TX8) dX8_count_116 lfX8_29 inX8 rfl (by decide) (rfl) rfl ?_
    refine s_getiN (ci := 1) (k := 2) (N := 4) (C := RX1) (T := TX1) dX8_count_119 lfX8_180 inX1 rfl (by decide) (rfl) rfl ?_
    exact s_iret dX8_count_122 rfl (⟨rfl, rfl⟩)
  · skip
    refine x_iload_n dX8_count_0 rfl ?_
    refine x_tabIn (off := 122) (tgt := 123) dX8_count_1 (by decide) (by decide) (by decide) (by decide) ?_
    refine x_aload_n dX8_count_123 rfl ?_
    refine s_getr (ci := 8) (k := 7) (N := 10) (C := RX8) (T := TX8) dX8_count_124 lfX8_53 inX8 rfl (by decide) (rfl) rfl ?_
    refine s_getiN (ci := 6) (k := 2) (N := 3) (C := RX6) (T := TX6) dX8_count_127 lfX8_94 inX6 rfl (by decide) (rfl) rfl ?_
    exact s_iret dX8_count_130 rfl (by rw [hq]; exact ⟨rfl, rfl⟩)
  · skip
    refine x_iload_n dX8_count_0 rfl ?_
    refine x_tabIn (off := 130) (tgt := 131) dX8_count_1 (by decide) (by decide) (by decide) (by decide) ?_
    refine x_aload_n dX8_count_131 rfl ?_
    refine s_getr (ci := 8) (k := 5) (N := 10) (C := RX8) (T := TX8) dX8_count_132 lfX8_39 inX8 rfl (by decide) (rfl) rfl ?_
    refine s_getiN (ci := 2) (k := 2) (N := 3) (C := RX2) (T := TX2) dX8_count_135 lfX8_164 inX2 rfl (by decide) (rfl) rfl ?_
    exact s_iret dX8_count_138 rfl (by rw [hu]; exact ⟨rfl, rfl⟩)
  · skip
    refine x_iload_n dX8_count_0 rfl ?_
    refine x_tabIn (off := 138) (tgt := 139) dX8_count_1 (by decide) (by decide) (by decide) (by decide) ?_
    refine x_aload_n dX8_count_139 rfl ?_
    refine s_getr (ci := 8) (k := 0) (N := 10) (C := RX8) (T := TX8) dX8_count_140 lfX8_10 inX8 rfl (by decide) (rfl) rfl ?_
    refine s_getiN (ci := 7) (k := 1) (N := 5) (C := RX7) (T := TX7) dX8_count_143 lfX8_75 inX7 rfl (by decide) (rfl) rfl ?_
    exact s_iret dX8_count_146 rfl (by rw [hl]; exact ⟨rfl, rfl⟩)
