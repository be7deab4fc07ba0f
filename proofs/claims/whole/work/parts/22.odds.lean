/-! ===== chances ===== -/
theorem q10 {q : Nat} (h : q ≤ 10) : (10 : Int32) - nI q = nI (10 - q) := by
  have := pk_sub (a := 10) (b := q) h
  exact this
theorem wtF_s (q h k : Nat) : wtF q h (k + 1) = wtF q h k * (if h.testBit k = true then q else 10 - q) := rfl
set_option maxRecDepth 100000 in
theorem k_weightOf (σ : Sg) {n q h : Nat} (hn : σ 3 5 = nI n) (hn8 : n ≤ 8) (hq : q ≤ 10) (hh : h < 256) : Cm 0 YX8_weightOf [.ref 0, .int (nI h), .int (nI q)] σ (fun v σ' => v = some (.long (lN (wtF q h n))) ∧ σ' = σ) := by
  refine Cm_of (by decide +kernel) (Nat.le_of_ble_eq_true rfl) ?_
  have loop : ∀ (j k : Nat), k + j = n → Ex (YX8_weightOf, 0, xB0, none) 5 [.ref 0, .int (nI h), .int (nI q), .long (lN (wtF q h k)), .null, .int (nI k)] [] (xMs σ) (xQ (fun v σ' => v = some (.long (lN (wtF q h n))) ∧ σ' = σ)) := by
    intro j
    induction j with
    | zero =>
      intro k hk
      obtain rfl : k = n := by omega
      refine x_iload dX8_weightOf_5 rfl ?_
      refine x_aload_n dX8_weightOf_7 rfl ?_
      refine s_getr (ci := 8) (k := 1) (N := 10) (C := RX8) (T := TX8) dX8_weightOf_8 lfX8_19 inX8 rfl (by decide) (rfl) rfl ?_
      refine s_getiN (ci := 3) (k := 5) (N := 8) (C := RX3) (T := TX3) dX8_weightOf_11 lfX8_187 inX3 rfl (by decide) (rfl) rfl ?_
      refine x_icmp_ge (tgt := 45) dX8_weightOf_14 (by decide) (fun c_14 => ?_) (fun c_14 => (absurd (by rw [hn]; exact Int32.le_refl _) c_14))
      refine x_lload_n dX8_weightOf_45 rfl ?_
      exact s_lret dX8_weightOf_46 rfl (⟨rfl, rfl⟩)
    | succ j ih =>
      intro k hk
      have hkn : k < n := by omega
      have step : ∀ x : Int64, x = lN (wtF q h (k + 1)) → Ex (YX8_weightOf, 0, xB0, none) 5 [.ref 0, .int (nI h), .int (nI q), .long x, .null, .int (nI (k + 1))] [] (xMs σ) (xQ (fun v σ' => v = some (.long (lN (wtF q h n))) ∧ σ' = σ)) := fun x hx => by
        subst hx
        exact ih (k + 1) (by omega)
      have bt := bz_bit (a := h) (k := k) (by omega) (by omega)
      refine x_iload dX8_weightOf_5 rfl ?_
      refine x_aload_n dX8_weightOf_7 rfl ?_
      refine s_getr (ci := 8) (k := 1) (N := 10) (C := RX8) (T := TX8) dX8_weightOf_8 lfX8_19 inX8 rfl (by decide) (rfl) rfl ?_
      refine s_getiN (ci := 3) (k := 5) (N := 8) (C := RX3) (T := TX3) dX8_weightOf_11 lfX8_187 inX3 rfl (by decide) (rfl) rfl ?_
      refine x_icmp_ge (tgt := 45) dX8_weightOf_14 (by decide) (fun c_14 => (absurd c_14 (by rw [hn]; exact nI_ge hkn (by omega)))) (fun c_14 => ?_)
      refine x_lload_n dX8_weightOf_17 rfl ?_
      refine x_iload_n dX8_weightOf_18 rfl ?_
      refine x_iload dX8_weightOf_19 rfl ?_
      refine x_ishr dX8_weightOf_21 ?_
      refine x_iconst (v := 1) dX8_weightOf_22 (by decide) ?_
      refine x_iand dX8_weightOf_23 ?_
      rw [bt]
      refine x_if_eq (tgt := 32) dX8_weightOf_24 (by decide) (fun c_24 => ?_) (fun c_24 => ?_)
      · refine x_bipush (v := 10) dX8_weightOf_32 (by decide) ?_
        refine x_iload_n dX8_weightOf_34 rfl ?_
        refine x_isub dX8_weightOf_35 ?_
        refine x_i2l dX8_weightOf_36 ?_
        refine x_lmul dX8_weightOf_37 ?_
        refine x_lstore_n dX8_weightOf_38 (Nat.le_of_ble_eq_true rfl) rfl ?_
        refine s_iinc dX8_weightOf_39 rfl (Nat.le_of_ble_eq_true rfl) rfl ?_
        refine x_goto (tgt := 5) dX8_weightOf_42 (by decide) ?_
        first
          | exact step _ (by rw [nI_l (by omega), lN_mul, wtF_s, if_pos (bI_n c_24)])
          | exact step _ (by rw [q10 hq, nI_l (by omega), lN_mul, wtF_s, if_neg (fun z => by rw [z] at c_24; exact absurd c_24 (by decide))])
      · refine x_iload_n dX8_weightOf_27 rfl ?_
        refine x_i2l dX8_weightOf_28 ?_
        refine x_goto (tgt := 37) dX8_weightOf_29 (by decide) ?_
        refine x_lmul dX8_weightOf_37 ?_
        refine x_lstore_n dX8_weightOf_38 (Nat.le_of_ble_eq_true rfl) rfl ?_
        refine s_iinc dX8_weightOf_39 rfl (Nat.le_of_ble_eq_true rfl) rfl ?_
        refine x_goto (tgt := 5) dX8_weightOf_42 (by decide) ?_
        first
          | exact step _ (by rw [nI_l (by omega), lN_mul, wtF_s, if_pos (bI_n c_24)])
          | exact step _ (by rw [q10 hq, nI_l (by omega), lN_mul, wtF_s, if_neg (fun z => by rw [z] at c_24; exact absurd c_24 (by decide))])
  refine x_lconst (v := 1) dX8_weightOf_0 (by decide) ?_
  refine x_lstore_n dX8_weightOf_1 (Nat.le_of_ble_eq_true rfl) rfl ?_
  refine x_iconst (v := 0) dX8_weightOf_2 (by decide) ?_
  refine x_istore dX8_weightOf_3 (Nat.le_of_ble_eq_true rfl) rfl ?_
  exact loop n 0 (by omega)
/-- of the first N sets at home: how often just that street carries it -/
def suF (p : PL) (o : MO) (s : Int32) (q : Nat) : Nat → Nat
  | 0 => 0
  | h + 1 => suF p o s q h + (if caF p o h 0 (-1) = s then wtF q h p.1 else 0)
theorem suF_s (p : PL) (o : MO) (s : Int32) (q h : Nat) : suF p o s q (h + 1) = suF p o s q h + (if caF p o h 0 (-1) = s then wtF q h p.1 else 0) := rfl
theorem moC_61 (n : Nat) (σ : Sg) (V : FN) : moC n (sw σ 61 V) 15 = moC n σ 15 := rfl
set_option maxRecDepth 100000 in
set_option maxHeartbeats 1000000 in
theorem k_weightOfCarried (σ : Sg) {n q : Nat} (s : Int32) (hn : σ 3 5 = nI n) (hn8 : n ≤ 8) (hq : q ≤ 10) : Cm 4 YX8_weightOfCarried [.ref 0, .int s, .int (nI q)] σ (fun v σ' => v = some (.long (lN (suF (plC n σ) (moC n σ 15) s q (2 ^ n)))) ∧ ∀ c, c ≠ 59 → c ≠ 60 → c ≠ 61 → σ' c = σ c) := by
  refine Cm_of (by decide +kernel) (Nat.le_of_ble_eq_true rfl) ?_
  have hp256 : 2 ^ n ≤ 256 := Nat.pow_le_pow_right (by decide) hn8
  have e1n : (1 : Int32) <<< (nI n &&& 31) = nI (2 ^ n) := bz_shl (by omega)
  have loop : ∀ (j h : Nat) (τ : Sg), h + j = 2 ^ n → (τ 59 2 = nI n ∧ (∀ i, i < n → τ 60 i = chF (plC n σ) (moC n σ 15).1 i) ∧ ∀ c, c ≠ 59 → c ≠ 60 → c ≠ 61 → τ c = σ c) → Ex (YX8_weightOfCarried, 4, xB0, none) 20 [.ref 0, .int s, .int (nI q), .long (lN (suF (plC n σ) (moC n σ 15) s q h)), .null, .int (nI h)] [] (xMs τ) (xQ (fun v σ' => v = some (.long (lN (suF (plC n σ) (moC n σ 15) s q (2 ^ n)))) ∧ ∀ c, c ≠ 59 → c ≠ 60 → c ≠ 61 → σ' c = σ c)) := by
    intro j
    induction j with
    | zero =>
      intro h τ hh hI
      obtain rfl : h = 2 ^ n := by omega
      have hn' : τ 3 5 = nI n := by rw [hI.2.2 3 (by decide) (by decide) (by decide)]; exact hn
      refine x_iload dX8_weightOfCarried_20 rfl ?_
      refine x_iconst (v := 1) dX8_weightOfCarried_22 (by decide) ?_
      refine x_aload_n dX8_weightOfCarried_23 rfl ?_
      refine s_getr (ci := 8) (k := 1) (N := 10) (C := RX8) (T := TX8) dX8_weightOfCarried_24 lfX8_19 inX8 rfl (by decide) (rfl) rfl ?_
      refine s_getiN (ci := 3) (k := 5) (N := 8) (C := RX3) (T := TX3) dX8_weightOfCarried_27 lfX8_187 inX3 rfl (by decide) (rfl) rfl ?_
      refine x_ishl dX8_weightOfCarried_30 ?_
      rw [hn', e1n]
      refine x_icmp_ge (tgt := 74) dX8_weightOfCarried_31 (by decide) (fun c_31 => ?_) (fun c_31 => (absurd (Int32.le_refl _) c_31))
      refine x_lload_n dX8_weightOfCarried_74 rfl ?_
      exact s_lret dX8_weightOfCarried_75 rfl (⟨rfl, hI.2.2⟩)
    | succ j ih =>
      intro h τ hh hI
      have hkn : h < 2 ^ n := by omega
      have hn' : τ 3 5 = nI n := by rw [hI.2.2 3 (by decide) (by decide) (by decide)]; exact hn
      have hmo : moC n τ 15 = moC n σ 15 := moC_fr (fun c a b => hI.2.2 c (by omega) (by omega) (by omega))
      have step : ∀ (x : Int64) (V : FN), x = lN (suF (plC n σ) (moC n σ 15) s q (h + 1)) → Ex (YX8_weightOfCarried, 4, xB0, none) 20 [.ref 0, .int s, .int (nI q), .long x, .null, .int (nI (h + 1))] [] (xMs (sw τ 61 V)) (xQ (fun v σ' => v = some (.long (lN (suF (plC n σ) (moC n σ 15) s q (2 ^ n)))) ∧ ∀ c, c ≠ 59 → c ≠ 60 → c ≠ 61 → σ' c = σ c)) := fun x V hx => by
        subst hx
        exact ih (h + 1) _ (by omega) ⟨by rw [sw_n _ _ (by decide)]; exact hI.1, fun i hi => by rw [sw_n _ _ (by decide)]; exact hI.2.1 i hi, fun c a b d => by rw [sw_n _ _ d]; exact hI.2.2 c a b d⟩
      refine x_iload dX8_weightOfCarried_20 rfl ?_
      refine x_iconst (v := 1) dX8_weightOfCarried_22 (by decide) ?_
      refine x_aload_n dX8_weightOfCarried_23 rfl ?_
      refine s_getr (ci := 8) (k := 1) (N := 10) (C := RX8) (T := TX8) dX8_weightOfCarried_24 lfX8_19 inX8 rfl (by decide) (rfl) rfl ?_
      refine s_getiN (ci := 3) (k := 5) (N := 8) (C := RX3) (T := TX3) dX8_weightOfCarried_27 lfX8_187 inX3 rfl (by decide) (rfl) rfl ?_
      refine x_ishl dX8_weightOfCarried_30 ?_
      rw [hn', e1n]
      refine x_icmp_ge (tgt := 74) dX8_weightOfCarried_31 (by decide) (fun c_31 => (absurd c_31 (nI_ge hkn (by omega)))) (fun c_31 => ?_)
      refine x_aload_n dX8_weightOfCarried_34 rfl ?_
      refine s_getr (ci := 8) (k := 8) (N := 10) (C := RX8) (T := TX8) dX8_weightOfCarried_35 lfX8_60 inX8 rfl (by decide) (rfl) rfl ?_
      refine x_aload_n dX8_weightOfCarried_38 rfl ?_
      refine s_getr (ci := 8) (k := 3) (N := 10) (C := RX8) (T := TX8) dX8_weightOfCarried_39 lfX8_29 inX8 rfl (by decide) (rfl) rfl ?_
      refine x_iload dX8_weightOfCarried_42 rfl ?_
      refine s_callV dX8_weightOfCarried_44 (k_tally (home := h) (ch := chF (plC n σ) (moC n σ 15).1) τ mo_15 hI.1 hn8 (by omega) hI.2.1) rfl w_X0_tally lmX8_128 im_X0_tally se_X0_tally rfl (rfl) rfl (Nat.le_of_ble_eq_true rfl) rfl (by decide) (fun v_44 σ_44 h_44 => ?_)
      obtain ⟨rfl, V, hV, rfl⟩ := h_44
      refine x_aload_n dX8_weightOfCarried_47 rfl ?_
      refine s_getr (ci := 8) (k := 8) (N := 10) (C := RX8) (T := TX8) dX8_weightOfCarried_48 lfX8_60 inX8 rfl (by decide) (rfl) rfl ?_
      refine s_callV dX8_weightOfCarried_51 (k_winner _ (n := n) (by rw [sw_n _ _ (by decide)]; exact hI.1) hn8) rfl w_X0_winner lmX8_244 im_X0_winner se_X0_winner rfl (rfl) rfl (Nat.le_of_ble_eq_true rfl) rfl (by decide) (fun v_51 σ_51 h_51 => ?_)
      obtain ⟨rfl, z⟩ := h_51
      have z := z.symm
      subst z
      have ew : (wnF (sw τ 61 V 61) n).1 = caF (plC n σ) (moC n σ 15) h 0 (-1) := by
        rw [sw_s]
        unfold caF
        rw [wnF_congr n hV, ← hmo]
        rfl
      rw [ew]
      refine x_iload_n dX8_weightOfCarried_54 rfl ?_
      refine x_icmp_ne (tgt := 68) dX8_weightOfCarried_55 (by decide) (fun c_55 => ?_) (fun c_55 => ?_)
      · refine s_iinc dX8_weightOfCarried_68 rfl (Nat.le_of_ble_eq_true rfl) rfl ?_
        refine x_goto (tgt := 20) dX8_weightOfCarried_71 (by decide) ?_
        first
          | exact step _ V (by rw [suF_s, if_neg c_55, Nat.add_zero])
          | exact step _ V (by rw [suF_s, if_pos c_55, lN_add]; rfl)
      · refine x_lload_n dX8_weightOfCarried_58 rfl ?_
        refine x_aload_n dX8_weightOfCarried_59 rfl ?_
        refine x_iload dX8_weightOfCarried_60 rfl ?_
        refine x_iload_n dX8_weightOfCarried_62 rfl ?_
        refine s_callV dX8_weightOfCarried_63 (k_weightOf _ (h := h) (q := q) (n := n) (by rw [sw_n _ _ (by decide)]; exact hn') hn8 hq (by omega)) rfl w_X8_weightOf lmX8_224 im_X8_weightOf se_X8_weightOf rfl (rfl) rfl (Nat.le_of_ble_eq_true rfl) rfl (by decide) (fun v_63 σ_63 h_63 => ?_)
        obtain ⟨rfl, z_63⟩ := h_63
        have z_63 := z_63.symm
        subst z_63
        refine x_ladd dX8_weightOfCarried_66 ?_
        refine x_lstore_n dX8_weightOfCarried_67 (Nat.le_of_ble_eq_true rfl) rfl ?_
        refine s_iinc dX8_weightOfCarried_68 rfl (Nat.le_of_ble_eq_true rfl) rfl ?_
        refine x_goto (tgt := 20) dX8_weightOfCarried_71 (by decide) ?_
        first
          | exact step _ V (by rw [suF_s, if_neg c_55, Nat.add_zero])
          | exact step _ V (by rw [suF_s, if_pos c_55, lN_add]; rfl)
  refine x_lconst (v := 0) dX8_weightOfCarried_0 (by decide) ?_
  refine x_lstore_n dX8_weightOfCarried_1 (Nat.le_of_ble_eq_true rfl) rfl ?_
  refine x_aload_n dX8_weightOfCarried_2 rfl ?_
  refine s_getr (ci := 8) (k := 8) (N := 10) (C := RX8) (T := TX8) dX8_weightOfCarried_3 lfX8_60 inX8 rfl (by decide) (rfl) rfl ?_
  refine x_aload_n dX8_weightOfCarried_6 rfl ?_
  refine s_getr (ci := 8) (k := 1) (N := 10) (C := RX8) (T := TX8) dX8_weightOfCarried_7 lfX8_19 inX8 rfl (by decide) (rfl) rfl ?_
  refine x_aload_n dX8_weightOfCarried_10 rfl ?_
  refine s_getr (ci := 8) (k := 3) (N := 10) (C := RX8) (T := TX8) dX8_weightOfCarried_11 lfX8_29 inX8 rfl (by decide) (rfl) rfl ?_
  refine s_callV dX8_weightOfCarried_14 (k_choose σ mo_15 hn hn8) rfl w_X0_choose lmX8_124 im_X0_choose se_X0_choose rfl (rfl) rfl (Nat.le_of_ble_eq_true rfl) rfl (by decide) (fun v_14 σ_14 h_14 => ?_)
  obtain ⟨rfl, C, hC, rfl⟩ := h_14
  refine x_iconst (v := 0) dX8_weightOfCarried_17 (by decide) ?_
  refine x_istore dX8_weightOfCarried_18 (Nat.le_of_ble_eq_true rfl) rfl ?_
  exact loop (2 ^ n) 0 _ (by omega) ⟨by rw [sw_n _ _ (by decide), sg_s], fun i hi => by rw [sw_s]; exact hC i hi, fun c a b d => by rw [sw_n _ _ b, sg_n _ _ _ a]⟩
/-- Euclid, so many steps -/
def euF : Nat → Nat → Nat → Nat
  | 0, a, _ => a
  | f + 1, a, b => if b = 0 then a else euF f b (a % b)
theorem euF_gcd : ∀ (k f a b : Nat), b < 2 ^ k → 2 * k + 1 ≤ f → euF f a b = Nat.gcd b a := by
  intro k
  induction k with
  | zero =>
    intro f a b hb hf
    obtain rfl : b = 0 := by simpa using hb
    obtain ⟨g, rfl⟩ : ∃ g, f = g + 1 := ⟨f - 1, by omega⟩
    simp [euF]
  | succ k ih =>
    intro f a b hb hf
    obtain ⟨g, rfl⟩ : ∃ g, f = g + 2 := ⟨f - 2, by omega⟩
    by_cases h0 : b = 0
    · subst h0; simp [euF]
    · have h1 : a % b < b := Nat.mod_lt _ (by omega)
      rw [euF, if_neg h0, euF, Nat.gcd_rec]
      by_cases h2 : a % b = 0
      · rw [if_pos h2, h2, Nat.gcd_zero_left]
      · rw [if_neg h2, ih g _ _ ?_ (by omega), ← Nat.gcd_rec]
        have h3 : b % (a % b) < a % b := Nat.mod_lt _ (by omega)
        have h5 : b % (a % b) = (b - a % b) % (a % b) := Nat.mod_eq_sub_mod (by omega)
        have h6 : (b - a % b) % (a % b) ≤ b - a % b := Nat.mod_le _ _
        have : 2 ^ (k + 1) = 2 ^ k * 2 := Nat.pow_succ 2 k
        omega
theorem lcmp_0 {b : Nat} (hb : b < 2 ^ 31) : lg_cmp (lN b) 0 = 0 ↔ b = 0 := by
  unfold lg_cmp
  constructor
  · intro h
    rcases Nat.eq_zero_or_pos b with q | q
    · exact q
    · rw [if_pos (show lN b > 0 from (pk_lLT (a := 0) (b := b) (by omega) (by omega)).mpr q)] at h
      exact absurd h (by decide)
  · rintro rfl
    decide
set_option maxRecDepth 100000 in
theorem k_commonDivisor (σ : Sg) {a b : Nat} (ha : a < 2 ^ 30) (hb : b < 2 ^ 30) : Cm 0 YX8_commonDivisor [.long (lN a), .long (lN b)] σ (fun v σ' => v = some (.long (lN (Nat.gcd b a))) ∧ σ' = σ) := by
  refine Cm_of (by decide +kernel) (Nat.le_of_ble_eq_true rfl) ?_
  rw [← euF_gcd 30 100 a b hb (by omega)]
  have loop : ∀ (f a1 b1 : Nat) (V9 V10 : Value), f ≤ 100 → a1 < 2 ^ 30 → b1 < 2 ^ 30 → euF f a1 b1 = euF 100 a b → Ex (YX8_commonDivisor, 0, xB0, none) 9 [.long (lN a), .null, .long (lN b), .null, .long (lN a1), .null, .long (lN b1), .null, .int (nI (100 - f)), V9, V10] [] (xMs σ) (xQ (fun v σ' => v = some (.long (lN (euF 100 a b))) ∧ σ' = σ)) := by
    intro f
    induction f with
    | zero =>
      intro a1 b1 V9 V10 hf h1 h2 he
      refine x_iload dX8_commonDivisor_9 rfl ?_
      refine x_bipush (v := 100) dX8_commonDivisor_11 (by decide) ?_
      refine x_icmp_ge (tgt := 44) dX8_commonDivisor_13 (by decide) (fun c_13 => ?_) (fun c_13 => (absurd (by decide) c_13))
      refine x_lload dX8_commonDivisor_44 rfl ?_
      exact s_lret dX8_commonDivisor_46 rfl (by rw [← he]; exact ⟨rfl, rfl⟩)
    | succ f ih =>
      intro a1 b1 V9 V10 hf h1 h2 he
      refine x_iload dX8_commonDivisor_9 rfl ?_
      refine x_bipush (v := 100) dX8_commonDivisor_11 (by decide) ?_
      refine x_icmp_ge (tgt := 44) dX8_commonDivisor_13 (by decide) (fun c_13 => (absurd c_13 (show ¬ nI 100 ≤ nI (100 - (f + 1)) from nI_ge (by omega) (by decide)))) (fun c_13 => ?_)
      refine x_lload dX8_commonDivisor_16 rfl ?_
      refine x_lconst (v := 0) dX8_commonDivisor_18 (by decide) ?_
      refine x_lcmp dX8_commonDivisor_19 ?_
      refine x_if_eq (tgt := 44) dX8_commonDivisor_20 (by decide) (fun c_20 => ?_) (fun c_20 => ?_)
      · refine x_lload dX8_commonDivisor_44 rfl ?_
        exact s_lret dX8_commonDivisor_46 rfl (by rw [← he, show b1 = 0 from (lcmp_0 (by omega)).mp c_20]; exact ⟨rfl, rfl⟩)
      · refine x_lload dX8_commonDivisor_23 rfl ?_
        refine x_lload dX8_commonDivisor_25 rfl ?_
        refine x_lrem dX8_commonDivisor_27 (fun z => c_20 ((lcmp_0 (by omega)).mpr ((pk_lEQ (a := b1) (b := 0) (by omega) (by omega)).mp z))) ?_
        refine x_lstore dX8_commonDivisor_28 (Nat.le_of_ble_eq_true rfl) rfl ?_
        refine x_lload dX8_commonDivisor_30 rfl ?_
        refine x_lstore dX8_commonDivisor_32 (Nat.le_of_ble_eq_true rfl) rfl ?_
        refine x_lload dX8_commonDivisor_34 rfl ?_
        refine x_lstore dX8_commonDivisor_36 (Nat.le_of_ble_eq_true rfl) rfl ?_
        refine s_iinc dX8_commonDivisor_38 rfl (Nat.le_of_ble_eq_true rfl) rfl ?_
        refine x_goto (tgt := 9) dX8_commonDivisor_41 (by decide) ?_
        have hb0 : ¬ b1 = 0 := fun z => c_20 ((lcmp_0 (by omega)).mpr z)
        rw [pk_lRem (by omega) (by omega) (by omega)]
        rw [show 100 - f = 100 - (f + 1) + 1 by omega] at ih
        exact ih b1 (a1 % b1) _ _ (by omega) h2 (Nat.lt_trans (Nat.mod_lt _ (by omega)) h2) (by rw [← he, euF, if_neg hb0])
  refine x_lload_n dX8_commonDivisor_0 rfl ?_
  refine x_lstore dX8_commonDivisor_1 (Nat.le_of_ble_eq_true rfl) rfl ?_
  refine x_lload_n dX8_commonDivisor_3 rfl ?_
  refine x_lstore dX8_commonDivisor_4 (Nat.le_of_ble_eq_true rfl) rfl ?_
  refine x_iconst (v := 0) dX8_commonDivisor_6 (by decide) ?_
  refine x_istore dX8_commonDivisor_7 (Nat.le_of_ble_eq_true rfl) rfl ?_
  exact loop 100 a b _ _ (by omega) ha hb rfl
