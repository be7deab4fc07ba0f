/-! ===== RainBallotModel: rain, a day, rows of numbers ===== -/
theorem i_ssc (y c : Int32) : y - (y - c) = c := by
  have e : (y - c) + c = y := Int32.sub_add_cancel y c
  calc y - (y - c) = ((y - c) + c) - (y - c) := by rw [e]
    _ = c := by rw [Int32.add_comm, Int32.add_sub_cancel]
theorem sg_twice {σ σ1 : Sg} {a k : Nat} {x y : Int32} (h : σ1 = sg (sg σ a k x) a k y) : σ1 = sw σ a (upd (σ a) k (σ1 a k)) := by
  have e : σ1 a k = y := by rw [h, sg_s]
  rw [e, h, sg_def, sg_row, sg_def, sw_sw]
  congr 1
  funext i
  unfold upd
  by_cases e : i = k <;> simp [e]
def WK (n : Nat) (w : FN) : Prop := ∀ i, i < n → ∃ a, a ≤ 99 ∧ w i = nI a
def Wp (p : PL) : Prop := p.1 ≤ 8 ∧ (∃ c, 5 ≤ c ∧ c ≤ 99 ∧ p.2.1 = nI c) ∧ (∃ i, 1 ≤ i ∧ i ≤ 20 ∧ p.2.2.1 = nI i) ∧ ∀ k, k < p.1 → (∃ a, a < 4 ∧ p.2.2.2.1 k = nI a) ∧ (∃ a, a ≤ 20 ∧ p.2.2.2.2.1 k = nI a) ∧ (∃ a, a ≤ 20 ∧ p.2.2.2.2.2.1 k = nI a) ∧ (∃ a, a ≤ 99 ∧ p.2.2.2.2.2.2.1 k = nI a) ∧ inq p.1 (p.2.2.2.2.2.2.2 k)
def Wm (n : Nat) (o : MO) : Prop := WK n o.1 ∧ (∀ k, k < n → ∃ a, a ≤ 20 ∧ o.2.1 k = nI a) ∧ inq n o.2.2.1
theorem nI_sub {a b : Nat} (h : b ≤ a) : nI a - nI b = nI (a - b) := by
  have e : nI (a - b) + nI b = nI a := by rw [nI_add]; congr 1; omega
  rw [← e, Int32.add_sub_cancel]
theorem on_or {met a : Nat} (h1 : met < 256) (h2 : a < 8) (h : met.testBit a = false) : onF (met ||| 2 ^ a) 8 = onF met 8 + 1 := by
  have : ∀ met, met < 256 → ∀ a, a < 8 → met.testBit a = false → onF (met ||| 2 ^ a) 8 = onF met 8 + 1 := by decide +kernel
  exact this met h1 a h2 h
theorem on_full {met a : Nat} (h1 : met < 256) (h2 : a < 8) (h : 8 ≤ onF met 8) : met.testBit a = true := by
  have : ∀ met, met < 256 → 8 ≤ onF met 8 → ∀ a, a < 8 → met.testBit a = true := by decide +kernel
  exact this met h1 h a h2
theorem fl_step {wa xn cc : Nat} (hc : cc ≤ 99) (hw : wa ≤ 99) (hx : xn ≤ 1000) : (if nI cc < nI wa + nI xn then nI cc else nI wa + nI xn) = nI (min cc (wa + xn)) ∧ nI wa + nI xn - nI (min cc (wa + xn)) = nI (wa + xn - min cc (wa + xn)) := by
  rw [nI_add]
  refine ⟨?_, nI_sub (by omega)⟩
  by_cases h : cc < wa + xn
  · rw [if_pos (nI_lt h (by omega)), Nat.min_eq_left (by omega)]
  · rw [if_neg (nI_nlt (by omega) (by omega)), Nat.min_eq_right (by omega)]
theorem flF_wk {n cc : Nat} {sl : FN} (hn8 : n ≤ 8) (hc : cc ≤ 99) (hsl : ∀ k, k < n → inq n (sl k)) : ∀ (f met : Nat) (a : Int32) (xn : Nat) (w : FN), f ≤ 8 → inq n a → xn ≤ 99 * (8 - f) + 20 → WK n w → WK n (flF n sl (nI cc) f met a (nI xn) w).2 := by
  intro f
  induction f with
  | zero => intro met a xn w _ _ _ hw; exact hw
  | succ f ih =>
    intro met a xn w hf ha hx hw
    by_cases h : 0 < nI xn ∧ inb n a = true ∧ met.testBit a.toNatClampNeg = false
    · obtain ⟨k, hk, rfl⟩ := inb_t (by omega) h.2.1
      rw [flF_s (by omega) h.1 hk (by rw [← nI_clamp (n := k) (by omega)]; exact h.2.2)]
      obtain ⟨wa, h1, h2⟩ := hw k hk
      obtain ⟨e1, e2⟩ := fl_step (wa := wa) (xn := xn) hc h1 (by omega)
      rw [h2, e1, e2]
      refine ih _ _ _ _ (by omega) (hsl k hk) (by omega) (fun i hi => ?_)
      unfold upd
      by_cases e : i = k
      · rw [if_pos e]; exact ⟨_, by omega, rfl⟩
      · rw [if_neg e]; exact hw i hi
    · rw [flF_n h]; exact hw
set_option maxRecDepth 100000 in
set_option maxHeartbeats 1000000 in
theorem l_falls {n cc : Nat} {s0 : Int32} (hn8 : n ≤ 8) (sl : FN) (hc : cc ≤ 99) (hsl : ∀ k, k < n → inq n (sl k)) : ∀ (f : Nat) (σ : Sg) (met : Nat) (a : Int32) (xn : Nat), f ≤ 8 → 8 ≤ onF met 8 + f → σ 83 0 = nI n → (∀ k, k < n → σ 83 (35 + k) = sl k) → σ 83 1 = nI cc → met < 256 → inq n a → xn ≤ 99 * (8 - f) + 20 → WK n (tr n (σ 85)) →
    Ex (YX9_falls, 0, xB0, none) 12 [.ref 81, .int s0, .int (nI met), .int a, .int (nI xn)] [] (xMs σ) (xQ (fun v σ' => v = some (.int (nI (flF n sl (nI cc) f met a (nI xn) (tr n (σ 85))).1)) ∧ ∃ W, σ' = sw σ 85 W ∧ tr n W = (flF n sl (nI cc) f met a (nI xn) (tr n (σ 85))).2 ∧ ∀ i, ¬ i < n → W i = σ 85 i)) := by
  intro f
  induction f with
  | zero =>
    intro σ met a xn hf ho hn hs h1 hmet ha hx hw
    have stop : (some (Value.int (nI met)) = some (.int (nI (flF n sl (nI cc) 0 met a (nI xn) (tr n (σ 85))).1)) ∧ ∃ W, σ = sw σ 85 W ∧ tr n W = (flF n sl (nI cc) 0 met a (nI xn) (tr n (σ 85))).2 ∧ ∀ i, ¬ i < n → W i = σ 85 i) := ⟨rfl, _, (sw_id _ _).symm, rfl, fun _ _ => rfl⟩
    refine x_iload_n dX9_falls_12 rfl ?_
    refine x_iconst (v := -1) dX9_falls_13 (by decide) ?_
    refine x_icmp_eq (tgt := 105) dX9_falls_14 (by decide) (fun c_14 => ?_) (fun c_14 => ?_)
    · refine x_iload_n dX9_falls_105 rfl ?_
      exact s_iret dX9_falls_106 rfl (stop)
    · refine x_iload dX9_falls_17 rfl ?_
      refine x_if_le (tgt := 105) dX9_falls_19 (by decide) (fun c_19 => ?_) (fun c_19 => ?_)
      · refine x_iload_n dX9_falls_105 rfl ?_
        exact s_iret dX9_falls_106 rfl (stop)
      · obtain ⟨k, hk, rfl⟩ := ha.resolve_left c_14
        refine x_iload_n dX9_falls_22 rfl ?_
        refine x_iload_n dX9_falls_23 rfl ?_
        refine x_ishr dX9_falls_24 ?_
        refine x_iconst (v := 1) dX9_falls_25 (by decide) ?_
        refine x_iand dX9_falls_26 ?_
        rw [bz_bit (by omega) (by omega), on_full hmet (by omega) (by omega)]
        refine x_if_ne (tgt := 105) dX9_falls_27 (by decide) (fun c_27 => ?_) (fun c_27 => (absurd c_27 (by decide)))
        refine x_iload_n dX9_falls_105 rfl ?_
        exact s_iret dX9_falls_106 rfl (stop)
  | succ f ih =>
    intro σ met a xn hf ho hn hs h1 hmet ha hx hw
    have stop : ¬ (0 < nI xn ∧ inb n a = true ∧ met.testBit a.toNatClampNeg = false) → (some (Value.int (nI met)) = some (.int (nI (flF n sl (nI cc) (f + 1) met a (nI xn) (tr n (σ 85))).1)) ∧ ∃ W, σ = sw σ 85 W ∧ tr n W = (flF n sl (nI cc) (f + 1) met a (nI xn) (tr n (σ 85))).2 ∧ ∀ i, ¬ i < n → W i = σ 85 i) := fun h => by
      rw [flF_n h]
      exact ⟨rfl, _, (sw_id _ _).symm, rfl, fun _ _ => rfl⟩
    have step : ∀ (k : Nat) (hk : k < n), a = nI k → 0 < nI xn → met.testBit k = false → ∀ y m : Int32, m = (if nI cc < σ 85 k + nI xn then nI cc else σ 85 k + nI xn) → y = σ 85 k + nI xn - m → ∀ σ1, σ1 = sw σ 85 (upd (σ 85) k m) → Ex (YX9_falls, 0, xB0, none) 12 [.ref 81, .int s0, .int (nI (met ||| 2 ^ k)), .int (sl k), .int y] [] (xMs σ1) (xQ (fun v σ' => v = some (.int (nI (flF n sl (nI cc) (f + 1) met a (nI xn) (tr n (σ 85))).1)) ∧ ∃ W, σ' = sw σ 85 W ∧ tr n W = (flF n sl (nI cc) (f + 1) met a (nI xn) (tr n (σ 85))).2 ∧ ∀ i, ¬ i < n → W i = σ 85 i)) := by
      intro k hk hak h0 hb y m hm hy σ1 hσ
      subst hak
      have e8 : tr n (σ 85) k = σ 85 k := tr_i hk
      obtain ⟨wa, q1, q2⟩ := hw k hk
      rw [e8] at q2
      obtain ⟨e1, e2⟩ := fl_step (wa := wa) (xn := xn) hc q1 (by omega)
      have hfl := flF_s (sl := sl) (cap := nI cc) (f := f) (w := tr n (σ 85)) (by omega) h0 hk hb
      rw [e8, ← hm, ← hy, ← tr_upd hk] at hfl
      rw [q2, e1] at hm
      rw [q2, hm, e2] at hy
      have e85 : σ1 85 = upd (σ 85) k m := by rw [hσ, sw_s]
      have hwn : WK n (tr n (σ1 85)) := fun i hi => by
        rw [tr_i hi, e85]
        unfold upd
        by_cases e : i = k
        · rw [if_pos e, hm]; exact ⟨_, by omega, rfl⟩
        · rw [if_neg e]
          have := hw i hi
          rwa [tr_i hi] at this
      rw [hfl, hy]
      have h := ih σ1 (met ||| 2 ^ k) (sl k) (wa + xn - min cc (wa + xn)) (by omega) (by rw [on_or hmet (by omega) hb]; omega) (by rw [hσ]; exact hn) (fun i hi => by rw [hσ]; exact hs i hi) (by rw [hσ]; exact h1) (Nat.or_lt_two_pow (n := 8) hmet (Nat.pow_lt_pow_right (by decide) (by omega))) (hsl k hk) (by omega) hwn
      rw [e85] at h
      refine Ex.mono h (fun v M h => ?_)
      obtain ⟨σ', rfl, hv, W, hW, ht, ho⟩ := h
      refine ⟨σ', rfl, hv, W, by rw [hW, hσ, sw_sw], ht, fun i hi => ?_⟩
      rw [ho i hi]
      exact if_neg (fun e => hi (by rw [e]; exact hk))
    refine x_iload_n dX9_falls_12 rfl ?_
    refine x_iconst (v := -1) dX9_falls_13 (by decide) ?_
    refine x_icmp_eq (tgt := 105) dX9_falls_14 (by decide) (fun c_14 => ?_) (fun c_14 => ?_)
    · refine x_iload_n dX9_falls_105 rfl ?_
      exact s_iret dX9_falls_106 rfl (by first | exact stop (fun h => by rw [c_14, inb_m1] at h; exact Bool.noConfusion h.2.1) | exact stop (fun h => absurd h.1 (Int32.not_lt.mpr c_19)) | exact stop (fun h => by rw [nI_clamp (by omega)] at h; rw [h.2.2] at c_27; exact c_27 rfl))
    · refine x_iload dX9_falls_17 rfl ?_
      refine x_if_le (tgt := 105) dX9_falls_19 (by decide) (fun c_19 => ?_) (fun c_19 => ?_)
      · refine x_iload_n dX9_falls_105 rfl ?_
        exact s_iret dX9_falls_106 rfl (by first | exact stop (fun h => by rw [c_14, inb_m1] at h; exact Bool.noConfusion h.2.1) | exact stop (fun h => absurd h.1 (Int32.not_lt.mpr c_19)) | exact stop (fun h => by rw [nI_clamp (by omega)] at h; rw [h.2.2] at c_27; exact c_27 rfl))
      · obtain ⟨k, hk, rfl⟩ := ha.resolve_left c_14
        refine x_iload_n dX9_falls_22 rfl ?_
        refine x_iload_n dX9_falls_23 rfl ?_
        refine x_ishr dX9_falls_24 ?_
        refine x_iconst (v := 1) dX9_falls_25 (by decide) ?_
        refine x_iand dX9_falls_26 ?_
        rw [bz_bit (by omega) (by omega)]
        refine x_if_ne (tgt := 105) dX9_falls_27 (by decide) (fun c_27 => ?_) (fun c_27 => ?_)
        · refine x_iload_n dX9_falls_105 rfl ?_
          exact s_iret dX9_falls_106 rfl (by first | exact stop (fun h => by rw [c_14, inb_m1] at h; exact Bool.noConfusion h.2.1) | exact stop (fun h => absurd h.1 (Int32.not_lt.mpr c_19)) | exact stop (fun h => by rw [nI_clamp (by omega)] at h; rw [h.2.2] at c_27; exact c_27 rfl))
        · refine x_iload_n dX9_falls_30 rfl ?_
          refine x_iconst (v := 1) dX9_falls_31 (by decide) ?_
          refine x_iload_n dX9_falls_32 rfl ?_
          refine x_ishl dX9_falls_33 ?_
          rw [bz_shl (by omega)]
          refine x_ior dX9_falls_34 ?_
          rw [bz_or]
          refine x_istore_n dX9_falls_35 (Nat.le_of_ble_eq_true rfl) rfl ?_
          refine x_aload_n dX9_falls_36 rfl ?_
          refine s_getr (ci := 9) (k := 4) (N := 20) (C := RX9) (T := TX9) dX9_falls_37 lfX9_19 inX9 rfl (by decide) (rfl) rfl ?_
          refine x_iload_n dX9_falls_40 rfl ?_
          refine x_dup2 dX9_falls_41 rfl rfl ?_
          refine s_iald dX9_falls_42 (rfl) (hi := rfl) (hj := by omega) (hn := by decide) ?_
          refine x_iload dX9_falls_43 rfl ?_
          refine x_iadd dX9_falls_45 ?_
          refine s_iast dX9_falls_46 (rfl) (hi := rfl) (hj := by omega) (hn := by decide) ?_
          refine xname (fun σ_46 e_46 => ?_)
          refine x_aload_n dX9_falls_47 rfl ?_
          refine s_getr (ci := 9) (k := 4) (N := 20) (C := RX9) (T := TX9) dX9_falls_48 lfX9_19 inX9 rfl (by decide) (rfl) rfl ?_
          refine x_iload_n dX9_falls_51 rfl ?_
          refine s_iald dX9_falls_52 (rfl) (hi := rfl) (hj := by omega) (hn := by decide) ?_
          refine x_aload_n dX9_falls_53 rfl ?_
          refine s_getr (ci := 9) (k := 2) (N := 20) (C := RX9) (T := TX9) dX9_falls_54 lfX9_13 inX9 rfl (by decide) (rfl) rfl ?_
          refine x_iconst (v := 1) dX9_falls_57 (by decide) ?_
          refine s_iald dX9_falls_58 (rfl) (j := 1) (hi := by decide) (hj := by omega) (hn := by decide) ?_
          refine x_icmp_le (tgt := 78) dX9_falls_59 (by decide) (fun c_59 => ?_) (fun c_59 => ?_)
          · refine x_iconst (v := 0) dX9_falls_78 (by decide) ?_
            refine x_istore dX9_falls_79 (Nat.le_of_ble_eq_true rfl) rfl ?_
            refine x_aload_n dX9_falls_81 rfl ?_
            refine s_getr (ci := 9) (k := 4) (N := 20) (C := RX9) (T := TX9) dX9_falls_82 lfX9_19 inX9 rfl (by decide) (rfl) rfl ?_
            refine x_iload_n dX9_falls_85 rfl ?_
            refine x_dup2 dX9_falls_86 rfl rfl ?_
            refine s_iald dX9_falls_87 (rfl) (hi := rfl) (hj := by omega) (hn := by decide) ?_
            refine x_iload dX9_falls_88 rfl ?_
            refine x_isub dX9_falls_90 ?_
            refine s_iast dX9_falls_91 (rfl) (hi := rfl) (hj := by omega) (hn := by decide) ?_
            refine xname (fun σ_91 e_91 => ?_)
            refine x_aload_n dX9_falls_92 rfl ?_
            refine s_getr (ci := 9) (k := 2) (N := 20) (C := RX9) (T := TX9) dX9_falls_93 lfX9_13 inX9 rfl (by decide) (rfl) rfl ?_
            refine x_bipush (v := 35) dX9_falls_96 (by decide) ?_
            refine x_iload_n dX9_falls_98 rfl ?_
            refine x_iadd dX9_falls_99 ?_
            refine s_iald dX9_falls_100 (rfl) (hi := nI_add 35 k) (hj := by omega) (hn := by decide) ?_
            rw [show σ_91 83 (35 + k) = sl k by rw [e_91, sg_n _ _ _ (by decide), e_46, sg_n _ _ _ (by decide)]; exact hs k hk]
            refine x_istore_n dX9_falls_101 (Nat.le_of_ble_eq_true rfl) rfl ?_
            refine x_goto (tgt := 12) dX9_falls_102 (by decide) ?_
            have g1 : σ_46 85 k = σ 85 k + nI xn := by rw [e_46, sg_s]
            have g2 : σ_46 83 1 = nI cc := by rw [e_46, sg_n _ _ _ (by decide)]; exact h1
            have g3 : σ_91 = sw σ 85 (upd (σ 85) k (σ_91 85 k)) := sg_twice (by rw [e_91, e_46])
            have g4 : σ_91 85 k = (if nI cc < σ 85 k + nI xn then nI cc else σ 85 k + nI xn) := by
              rw [e_91, sg_s, g1]
              first
                | (rw [g1, g2] at c_59; rw [if_neg (Int32.not_lt.mpr c_59), Int32.sub_zero])
                | (rw [g1, g2] at c_59; rw [g2, if_pos (Int32.not_le.mp c_59), i_ssc])
            refine step k hk rfl (Int32.not_le.mp c_19) (bI_0.mp c_27) _ _ g4 ?_ σ_91 g3
            rw [g4]
            first
              | (rw [g1, g2] at c_59; rw [if_neg (Int32.not_lt.mpr c_59), Int32.sub_self])
              | (rw [g1, g2] at c_59; rw [g1, g2, if_pos (Int32.not_le.mp c_59)])
          · refine x_aload_n dX9_falls_62 rfl ?_
            refine s_getr (ci := 9) (k := 4) (N := 20) (C := RX9) (T := TX9) dX9_falls_63 lfX9_19 inX9 rfl (by decide) (rfl) rfl ?_
            refine x_iload_n dX9_falls_66 rfl ?_
            refine s_iald dX9_falls_67 (rfl) (hi := rfl) (hj := by omega) (hn := by decide) ?_
            refine x_aload_n dX9_falls_68 rfl ?_
            refine s_getr (ci := 9) (k := 2) (N := 20) (C := RX9) (T := TX9) dX9_falls_69 lfX9_13 inX9 rfl (by decide) (rfl) rfl ?_
            refine x_iconst (v := 1) dX9_falls_72 (by decide) ?_
            refine s_iald dX9_falls_73 (rfl) (j := 1) (hi := by decide) (hj := by omega) (hn := by decide) ?_
            refine x_isub dX9_falls_74 ?_
            refine x_goto (tgt := 79) dX9_falls_75 (by decide) ?_
            refine x_istore dX9_falls_79 (Nat.le_of_ble_eq_true rfl) rfl ?_
            refine x_aload_n dX9_falls_81 rfl ?_
            refine s_getr (ci := 9) (k := 4) (N := 20) (C := RX9) (T := TX9) dX9_falls_82 lfX9_19 inX9 rfl (by decide) (rfl) rfl ?_
            refine x_iload_n dX9_falls_85 rfl ?_
            refine x_dup2 dX9_falls_86 rfl rfl ?_
            refine s_iald dX9_falls_87 (rfl) (hi := rfl) (hj := by omega) (hn := by decide) ?_
            refine x_iload dX9_falls_88 rfl ?_
            refine x_isub dX9_falls_90 ?_
            refine s_iast dX9_falls_91 (rfl) (hi := rfl) (hj := by omega) (hn := by decide) ?_
            refine xname (fun σ_91 e_91 => ?_)
            refine x_aload_n dX9_falls_92 rfl ?_
            refine s_getr (ci := 9) (k := 2) (N := 20) (C := RX9) (T := TX9) dX9_falls_93 lfX9_13 inX9 rfl (by decide) (rfl) rfl ?_
            refine x_bipush (v := 35) dX9_falls_96 (by decide) ?_
            refine x_iload_n dX9_falls_98 rfl ?_
            refine x_iadd dX9_falls_99 ?_
            refine s_iald dX9_falls_100 (rfl) (hi := nI_add 35 k) (hj := by omega) (hn := by decide) ?_
            rw [show σ_91 83 (35 + k) = sl k by rw [e_91, sg_n _ _ _ (by decide), e_46, sg_n _ _ _ (by decide)]; exact hs k hk]
            refine x_istore_n dX9_falls_101 (Nat.le_of_ble_eq_true rfl) rfl ?_
            refine x_goto (tgt := 12) dX9_falls_102 (by decide) ?_
            have g1 : σ_46 85 k = σ 85 k + nI xn := by rw [e_46, sg_s]
            have g2 : σ_46 83 1 = nI cc := by rw [e_46, sg_n _ _ _ (by decide)]; exact h1
            have g3 : σ_91 = sw σ 85 (upd (σ 85) k (σ_91 85 k)) := sg_twice (by rw [e_91, e_46])
            have g4 : σ_91 85 k = (if nI cc < σ 85 k + nI xn then nI cc else σ 85 k + nI xn) := by
              rw [e_91, sg_s, g1]
              first
                | (rw [g1, g2] at c_59; rw [if_neg (Int32.not_lt.mpr c_59), Int32.sub_zero])
                | (rw [g1, g2] at c_59; rw [g2, if_pos (Int32.not_le.mp c_59), i_ssc])
            refine step k hk rfl (Int32.not_le.mp c_19) (bI_0.mp c_27) _ _ g4 ?_ σ_91 g3
            rw [g4]
            first
              | (rw [g1, g2] at c_59; rw [if_neg (Int32.not_lt.mpr c_59), Int32.sub_self])
              | (rw [g1, g2] at c_59; rw [g1, g2, if_pos (Int32.not_le.mp c_59)])
set_option maxRecDepth 100000 in
theorem k_falls (σ : Sg) {n : Nat} (hn : σ 83 0 = nI n) (hp : Wp (plM n σ 83)) (hw : WK n (moS n σ).1) {s : Int32} (hs : inq n s) : Cm 0 YX9_falls [.ref 81, .int s] σ (fun v σ' => v = some (.int (nI (flA (plM n σ 83) s (moS n σ).1).1)) ∧ ∃ W, σ' = sw σ 85 W ∧ tr n W = (flA (plM n σ 83) s (moS n σ).1).2 ∧ ∀ i, ¬ i < n → W i = σ 85 i) := by
  refine Cm_of (by decide +kernel) (Nat.le_of_ble_eq_true rfl) ?_
  obtain ⟨hn8, ⟨cc, hc1, hc2, hc⟩, ⟨ii, hi1, hi2, hi⟩, hpk⟩ := hp
  have hn8 : n ≤ 8 := hn8
  have hc : σ 83 1 = nI cc := hc
  have hi : σ 83 2 = nI ii := hi
  have h := l_falls (s0 := s) hn8 (tr n (fun i => σ 83 (35 + i))) hc2 (fun k hk => (hpk k hk).2.2.2.2) 8 σ 0 s ii (by omega) (by omega) hn (fun k hk => (tr_i (f := fun i => σ 83 (35 + i)) hk).symm) hc (by omega) hs (by omega) hw
  unfold flA
  show Ex _ _ _ _ _ (xQ (fun v σ' => v = some (.int (nI (flF n (tr n (fun i => σ 83 (35 + i))) (σ 83 1) 8 0 s (σ 83 2) (tr n (σ 85))).1)) ∧ ∃ W, σ' = sw σ 85 W ∧ tr n W = (flF n (tr n (fun i => σ 83 (35 + i))) (σ 83 1) 8 0 s (σ 83 2) (tr n (σ 85))).2 ∧ ∀ i, ¬ i < n → W i = σ 85 i))
  rw [hc, hi]
  refine x_iconst (v := 0) dX9_falls_0 (by decide) ?_
  refine x_istore_n dX9_falls_1 (Nat.le_of_ble_eq_true rfl) rfl ?_
  refine x_iload_n dX9_falls_2 rfl ?_
  refine x_istore_n dX9_falls_3 (Nat.le_of_ble_eq_true rfl) rfl ?_
  refine x_aload_n dX9_falls_4 rfl ?_
  refine s_getr (ci := 9) (k := 2) (N := 20) (C := RX9) (T := TX9) dX9_falls_5 lfX9_13 inX9 rfl (by decide) (rfl) rfl ?_
  refine x_iconst (v := 2) dX9_falls_8 (by decide) ?_
  refine s_iald dX9_falls_9 (rfl) (j := 2) (hi := by decide) (hj := by omega) (hn := by decide) ?_
  rw [hi]
  refine x_istore dX9_falls_10 (Nat.le_of_ble_eq_true rfl) rfl ?_
  exact h
theorem fl_wk {p : PL} {s : Int32} {w : FN} (hp : Wp p) (hs : inq p.1 s) (hw : WK p.1 w) : WK p.1 (flA p s w).2 := by
  obtain ⟨hn8, ⟨cc, hc1, hc2, hc⟩, ⟨ii, hi1, hi2, hi⟩, hpk⟩ := hp
  unfold flA
  rw [hc, hi]
  exact flF_wk hn8 hc2 (fun k hk => (hpk k hk).2.2.2.2) 8 0 s ii w (by omega) hs (by omega) hw
theorem fl_no {p : PL} {w : FN} : flA p (-1) w = (0, w) := flF_n (fun h => by rw [inb_m1] at h; exact Bool.noConfusion h.2.1)
theorem de_wk {a : Nat} (h : a ≤ 99) : (if 0 < nI a then nI a - 1 else nI a - 0) = deF (nI a) ∧ ∃ b, b ≤ 99 ∧ deF (nI a) = nI b := by
  have : ∀ a, a < 100 → (if 0 < nI a then nI a - 1 else nI a - 0) = deF (nI a) ∧ deF (nI a) = nI (a - 1) := by decide +kernel
  obtain ⟨h1, h2⟩ := this a (by omega)
  exact ⟨h1, a - 1, by omega, h2⟩
theorem ps_wk {p : PL} {o : MO} {s : Int32} (hp : Wp p) (hs : inq p.1 s) (ho : Wm p.1 o) : Wm p.1 (psF p o s) := by
  refine ⟨fun i hi => ?_, ho.2.1, hs⟩
  obtain ⟨a, h1, h2⟩ := fl_wk hp hs ho.1 i hi
  show ∃ a, a ≤ 99 ∧ tr p.1 (fun k => deF ((flA p s o.1).2 k)) i = nI a
  rw [tr_i hi, h2]
  exact (de_wk h1).2
theorem ca_inq {p : PL} {o : MO} {a b : Nat} {t : Int32} : inq p.1 (caF p o a b t) := caF_in p o a b t
theorem da_wk {p : PL} {o : MO} (hp : Wp p) (ho : Wm p.1 o) : Wm p.1 (daF p o) := ps_wk hp ca_inq ho
set_option maxRecDepth 100000 in
theorem l_rains {n : Nat} {s : Int32} (hn8 : n ≤ 8) (U : FN) (hU : WK n U) (σ0 : Sg) (h0n : σ0 83 0 = nI n) : ∀ (j k : Nat) (W : FN), k + j = n → (∀ i, i < n → W i = if i < k then deF (U i) else U i) → (∀ i, ¬ i < n → W i = σ0 85 i) →
    Ex (YX9_rains, 1, xB0, none) 13 [.ref 81, .int s, .int (nI k)] [] (xMs (sw σ0 85 W)) (xQ (fun v σ' => v = none ∧ moS n σ' = (tr n (fun k => deF (U k)), tr n (fun i => σ0 85 (8 + i)), s, σ0 85 16 + 1) ∧ ∀ c, c ≠ 85 → σ' c = σ0 c)) := by
  intro j
  induction j with
  | zero =>
    intro k W hk hW hO
    have hk : k = n := by omega
    subst hk
    have hn : sw σ0 85 W 83 0 = nI k := h0n
    refine x_iload_n dX9_rains_13 rfl ?_
    refine x_aload_n dX9_rains_14 rfl ?_
    refine s_getr (ci := 9) (k := 2) (N := 20) (C := RX9) (T := TX9) dX9_rains_15 lfX9_13 inX9 rfl (by decide) (rfl) rfl ?_
    refine x_iconst (v := 0) dX9_rains_18 (by decide) ?_
    refine s_iald dX9_rains_19 (rfl) (j := 0) (hi := by decide) (hj := by omega) (hn := by decide) ?_
    refine x_icmp_ge (tgt := 52) dX9_rains_20 (by decide) (fun c_20 => ?_) (fun c_20 => (absurd (by rw [hn]; exact Int32.le_refl _) c_20))
    refine x_aload_n dX9_rains_52 rfl ?_
    refine s_getr (ci := 9) (k := 4) (N := 20) (C := RX9) (T := TX9) dX9_rains_53 lfX9_19 inX9 rfl (by decide) (rfl) rfl ?_
    refine x_bipush (v := 17) dX9_rains_56 (by decide) ?_
    refine x_iload_n dX9_rains_58 rfl ?_
    refine s_iast dX9_rains_59 (rfl) (j := 17) (hi := by decide) (hj := by omega) (hn := by decide) ?_
    refine xname (fun σ_59 e_59 => ?_)
    refine x_aload_n dX9_rains_60 rfl ?_
    refine s_getr (ci := 9) (k := 4) (N := 20) (C := RX9) (T := TX9) dX9_rains_61 lfX9_19 inX9 rfl (by decide) (rfl) rfl ?_
    refine x_bipush (v := 16) dX9_rains_64 (by decide) ?_
    refine x_dup2 dX9_rains_66 rfl rfl ?_
    refine s_iald dX9_rains_67 (rfl) (j := 16) (hi := by decide) (hj := by omega) (hn := by decide) ?_
    refine x_iconst (v := 1) dX9_rains_68 (by decide) ?_
    refine x_iadd dX9_rains_69 ?_
    refine s_iast dX9_rains_70 (rfl) (j := 16) (hi := by decide) (hj := by omega) (hn := by decide) ?_
    refine xname (fun σ_70 e_70 => ?_)
    refine s_ret dX9_rains_71 rfl ?_
    have e : ∀ i, i ≠ 16 → i ≠ 17 → σ_70 85 i = W i := fun i a b => by rw [e_70, sg_k _ _ _ a, e_59, sg_k _ _ _ b, sw_s]
    refine ⟨rfl, ?_, fun c hc => by rw [e_70, sg_n _ _ _ hc, e_59, sg_n _ _ _ hc, sw_n _ _ hc]⟩
    unfold moS
    refine congr (congrArg Prod.mk ?_) (congr (congrArg Prod.mk ?_) (congr (congrArg Prod.mk ?_) ?_))
    · exact tr_ext fun i hi => by rw [e i (by omega) (by omega), hW i hi, if_pos hi]
    · exact tr_ext fun i hi => by rw [e (8 + i) (by omega) (by omega), hO (8 + i) (by omega)]
    · rw [e_70, sg_k _ _ _ (by decide), e_59, sg_s]
    · rw [e_70, sg_s, e_59, sg_k _ _ _ (by decide), sw_s, hO 16 (by omega)]
  | succ j ih =>
    intro k W hk hW hO
    have hkn : k < n := by omega
    have hn : sw σ0 85 W 83 0 = nI n := h0n
    obtain ⟨a, ha, hUa⟩ := hU k hkn
    have eW : sw σ0 85 W 85 k = nI a := by rw [sw_s, hW k hkn, if_neg (by omega)]; exact hUa
    have ed := (de_wk ha).1
    have step : ∀ x : Int32, x = deF (U k) → Ex (YX9_rains, 1, xB0, none) 13 [.ref 81, .int s, .int (nI (k + 1))] [] (xMs (sw σ0 85 (upd W k x))) (xQ (fun v σ' => v = none ∧ moS n σ' = (tr n (fun k => deF (U k)), tr n (fun i => σ0 85 (8 + i)), s, σ0 85 16 + 1) ∧ ∀ c, c ≠ 85 → σ' c = σ0 c)) := fun x hx => by
      subst hx
      refine ih (k + 1) _ (by omega) (fun i hi => ?_) (fun i hi => ?_)
      · unfold upd
        by_cases e : i = k
        · rw [if_pos e, if_pos (by omega), e]
        · rw [if_neg e, hW i hi]
          by_cases q : i < k
          · rw [if_pos q, if_pos (by omega)]
          · rw [if_neg q, if_neg (by omega)]
      · unfold upd
        rw [if_neg (by omega)]
        exact hO i hi
    refine x_iload_n dX9_rains_13 rfl ?_
    refine x_aload_n dX9_rains_14 rfl ?_
    refine s_getr (ci := 9) (k := 2) (N := 20) (C := RX9) (T := TX9) dX9_rains_15 lfX9_13 inX9 rfl (by decide) (rfl) rfl ?_
    refine x_iconst (v := 0) dX9_rains_18 (by decide) ?_
    refine s_iald dX9_rains_19 (rfl) (j := 0) (hi := by decide) (hj := by omega) (hn := by decide) ?_
    refine x_icmp_ge (tgt := 52) dX9_rains_20 (by decide) (fun c_20 => (absurd c_20 (by rw [hn]; exact nI_ge hkn (by omega)))) (fun c_20 => ?_)
    refine x_aload_n dX9_rains_23 rfl ?_
    refine s_getr (ci := 9) (k := 4) (N := 20) (C := RX9) (T := TX9) dX9_rains_24 lfX9_19 inX9 rfl (by decide) (rfl) rfl ?_
    refine x_iload_n dX9_rains_27 rfl ?_
    refine x_dup2 dX9_rains_28 rfl rfl ?_
    refine s_iald dX9_rains_29 (rfl) (hi := rfl) (hj := by omega) (hn := by decide) ?_
    refine x_aload_n dX9_rains_30 rfl ?_
    refine s_getr (ci := 9) (k := 4) (N := 20) (C := RX9) (T := TX9) dX9_rains_31 lfX9_19 inX9 rfl (by decide) (rfl) rfl ?_
    refine x_iload_n dX9_rains_34 rfl ?_
    refine s_iald dX9_rains_35 (rfl) (hi := rfl) (hj := by omega) (hn := by decide) ?_
    refine x_if_le (tgt := 43) dX9_rains_36 (by decide) (fun c_36 => ?_) (fun c_36 => ?_)
    · refine x_iconst (v := 0) dX9_rains_43 (by decide) ?_
      refine x_isub dX9_rains_44 ?_
      refine s_iast dX9_rains_45 (rfl) (hi := rfl) (hj := by omega) (hn := by decide) ?_
      refine s_iinc dX9_rains_46 rfl (Nat.le_of_ble_eq_true rfl) rfl ?_
      refine x_goto (tgt := 13) dX9_rains_49 (by decide) ?_
      rw [sg_def _ 85, sw_sw, sw_s]
      refine step _ ?_
      rw [eW] at c_36
      rw [← sw_s σ0 85 W, eW, hUa, ← ed]
      first
        | rw [if_neg (Int32.not_lt.mpr c_36)]
        | rw [if_pos (Int32.not_le.mp c_36)]
    · refine x_iconst (v := 1) dX9_rains_39 (by decide) ?_
      refine x_goto (tgt := 44) dX9_rains_40 (by decide) ?_
      refine x_isub dX9_rains_44 ?_
      refine s_iast dX9_rains_45 (rfl) (hi := rfl) (hj := by omega) (hn := by decide) ?_
      refine s_iinc dX9_rains_46 rfl (Nat.le_of_ble_eq_true rfl) rfl ?_
      refine x_goto (tgt := 13) dX9_rains_49 (by decide) ?_
      rw [sg_def _ 85, sw_sw, sw_s]
      refine step _ ?_
      rw [eW] at c_36
      rw [← sw_s σ0 85 W, eW, hUa, ← ed]
      first
        | rw [if_neg (Int32.not_lt.mpr c_36)]
        | rw [if_pos (Int32.not_le.mp c_36)]
set_option maxRecDepth 100000 in
theorem k_rains (σ : Sg) {n : Nat} (hn : σ 83 0 = nI n) (hp : Wp (plM n σ 83)) (hw : WK n (moS n σ).1) {s : Int32} (hs : inq n s) : Cm 1 YX9_rains [.ref 81, .int s] σ (fun v σ' => v = none ∧ moS n σ' = psF (plM n σ 83) (moS n σ) s ∧ ∀ c, c ≠ 85 → σ' c = σ c) := by
  refine Cm_of (by decide +kernel) (Nat.le_of_ble_eq_true rfl) ?_
  have hn8 : n ≤ 8 := hp.1
  have key : ∀ W : FN, tr n W = (flA (plM n σ 83) s (moS n σ).1).2 → (∀ i, ¬ i < n → W i = σ 85 i) → Ex (YX9_rains, 1, xB0, none) 13 [.ref 81, .int s, .int (nI 0)] [] (xMs (sw σ 85 W)) (xQ (fun v σ' => v = none ∧ moS n σ' = psF (plM n σ 83) (moS n σ) s ∧ ∀ c, c ≠ 85 → σ' c = σ c)) := fun W h1 h2 => by
    have h := l_rains (s := s) hn8 (flA (plM n σ 83) s (moS n σ).1).2 (fl_wk hp hs hw) σ hn n 0 W (by omega) (fun i hi => by rw [if_neg (by omega), ← h1, tr_i hi]) h2
    exact h
  refine x_iload_n dX9_rains_0 rfl ?_
  refine x_iconst (v := -1) dX9_rains_1 (by decide) ?_
  refine x_icmp_eq (tgt := 11) dX9_rains_2 (by decide) (fun c_2 => ?_) (fun c_2 => ?_)
  · refine x_iconst (v := 0) dX9_rains_11 (by decide) ?_
    refine x_istore_n dX9_rains_12 (Nat.le_of_ble_eq_true rfl) rfl ?_
    first
      | exact key W hW hO
      | (have h := key (σ 85) (by rw [c_2, fl_no]; rfl) (fun _ _ => rfl)
         rw [sw_id] at h
         exact h)
  · refine x_aload_n dX9_rains_5 rfl ?_
    refine x_iload_n dX9_rains_6 rfl ?_
    refine s_callV dX9_rains_7 (k_falls σ hn hp hw hs) rfl w_X9_falls lmX9_132 im_X9_falls se_X9_falls rfl (rfl) rfl (Nat.le_of_ble_eq_true rfl) rfl (by decide) (fun v_7 σ_7 h_7 => ?_)
    obtain ⟨rfl, W, rfl, hW, hO⟩ := h_7
    refine x_pop dX9_rains_10 rfl ?_
    refine x_iconst (v := 0) dX9_rains_11 (by decide) ?_
    refine x_istore_n dX9_rains_12 (Nat.le_of_ble_eq_true rfl) rfl ?_
    first
      | exact key W hW hO
      | (have h := key (σ 85) (by rw [c_2, fl_no]; rfl) (fun _ _ => rfl)
         rw [sw_id] at h
         exact h)
