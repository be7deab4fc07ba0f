/-! ===== RainBallot's calls, 5: carry, reach, month, polls, chance ===== -/

theorem bz_not (a b : Nat) : nI a &&& (nI b ^^^ (-1)) = 0 ↔ ∀ i, i < 32 → a.testBit i = true → b.testBit i = true := by
  have e : (nI a &&& (nI b ^^^ (-1))).toBitVec = BitVec.ofNat 32 a &&& (BitVec.ofNat 32 b ^^^ BitVec.allOnes 32) := rfl
  constructor
  · intro h i hi ha
    have h2 : (nI a &&& (nI b ^^^ (-1))).toBitVec.getLsbD i = false := by rw [h]; exact BitVec.getLsbD_zero
    rw [e, BitVec.getLsbD_and, BitVec.getLsbD_xor, BitVec.getLsbD_ofNat, BitVec.getLsbD_ofNat, BitVec.getLsbD_allOnes] at h2
    cases hb : b.testBit i with
    | true => rfl
    | false => rw [ha, hb, decide_eq_true hi] at h2; exact absurd h2 (by decide)
  · intro h
    apply Int32.toBitVec_inj.mp
    rw [e]
    apply BitVec.eq_of_getLsbD_eq
    intro i hi
    rw [BitVec.getLsbD_and, BitVec.getLsbD_xor, BitVec.getLsbD_ofNat, BitVec.getLsbD_ofNat, BitVec.getLsbD_allOnes, decide_eq_true hi]
    have hz : (0 : Int32).toBitVec.getLsbD i = false := BitVec.getLsbD_zero
    rw [hz]
    cases ha : a.testBit i with
    | false => rfl
    | true => rw [h i hi ha]; rfl
theorem sub_iff {a b : Nat} (ha : a < 256) : nI a &&& (nI b ^^^ (-1)) = 0 ↔ a &&& b = a := by
  rw [bz_not]
  constructor
  · intro h
    apply Nat.eq_of_testBit_eq
    intro i
    rw [Nat.testBit_and]
    by_cases hi : i < 32
    · cases hb : a.testBit i with
      | false => rfl
      | true => rw [h i hi hb]; rfl
    · rw [Nat.testBit_lt_two_pow (x := a) (i := i) (Nat.lt_of_lt_of_le ha (Nat.pow_le_pow_right (n := 2) (by decide) (by omega : 8 ≤ i) : 2 ^ 8 ≤ 2 ^ i))]
      rfl
  · intro h i _ hb
    rw [← h, Nat.testBit_and] at hb
    simp at hb
    exact hb.2
/-- a set without one -/
def clF (a s : Nat) : Nat := a &&& (255 - 2 ^ s)
theorem clF_e {a s : Nat} (ha : a < 256) (hs : s < 8) : nI a &&& (((1 : Int32) <<< (nI s &&& 31)) ^^^ (-1)) = nI (clF a s) := by
  have : ∀ s, s < 8 → ∀ a, a < 256 → nI a &&& (((1 : Int32) <<< (nI s &&& 31)) ^^^ (-1)) = nI (clF a s) := by decide +kernel
  exact this s hs a ha
theorem clF_lt {a s : Nat} (ha : a < 256) : clF a s < 256 := Nat.lt_of_le_of_lt Nat.and_le_left ha
/-- the best set so far, and how many it has -/
def cyS (p : PL) (o : MO) (s al : Nat) : Nat → Int32 × Nat
  | 0 => (-1, 9)
  | k + 1 => if (k &&& al = k ∧ onF k 8 < (cyS p o s al k).2) ∧ caF p o 0 k (nI s) = nI s then (nI k, onF k 8) else cyS p o s al k
theorem cyS_le (p : PL) (o : MO) (s al : Nat) : ∀ k, (cyS p o s al k).2 ≤ 9 := by
  intro k
  induction k with
  | zero => exact Nat.le_refl _
  | succ k ih =>
    unfold cyS
    split
    · exact Nat.le_trans (onF_le k 8) (by decide)
    · exact ih
def cyF (p : PL) (o : MO) (s : Nat) : Int32 := (cyS p o s (clF (stF (vbF p.2.2.2.1) p.1) s) (2 ^ p.1)).1
set_option maxRecDepth 100000 in
set_option maxHeartbeats 1000000 in
theorem k_carry (σ : Sg) {n k : Nat} (hn : σ 3 5 = nI n) (hn8 : n ≤ 8) (hk : k < n) : Cm 12 YX8_carry [.ref 0, .int (nI k)] σ (fun v σ' => v = some (.int (cyF (plC n σ) (moC n σ 15) k)) ∧ frQ σ σ') := by
  refine Cm_of (by decide +kernel) (Nat.le_of_ble_eq_true rfl) ?_
  have hp256 : 2 ^ n ≤ 256 := Nat.pow_le_pow_right (by decide) hn8
  have e1n : (1 : Int32) <<< (nI n &&& 31) = nI (2 ^ n) := bz_shl (by omega)
  have hal : clF (stF (vbF (tr n (σ 4))) n) k < 256 := clF_lt (stF_256 hn8)
  have e : ∀ x, x = cyS (plC n σ) (moC n σ 15) k (clF (stF (vbF (tr n (σ 4))) n) k) (2 ^ n) → x.1 = cyF (plC n σ) (moC n σ 15) k := fun x h => by rw [h]; rfl
  have eal : nI (stF (vbF (tr n (σ 4))) n) &&& (((1 : Int32) <<< (nI k &&& 31)) ^^^ (-1)) = nI (clF (stF (vbF (tr n (σ 4))) n) k) := clF_e (stF_256 hn8) (by omega)
  generalize clF (stF (vbF (tr n (σ 4))) n) k = al at hal e eal
  have loop : ∀ (j h : Nat) (τ : Sg), h + j = 2 ^ n → (τ 59 2 = nI n ∧ (∀ i, i < n → τ 60 i = chF (plC n σ) (moC n σ 15).1 i) ∧ ∀ c, c ≠ 59 → c ≠ 60 → c ≠ 61 → τ c = σ c) → Ex (YX8_carry, 12, xB0, none) 52 [.ref 0, .int (nI k), .int (nI al), .int (cyS (plC n σ) (moC n σ 15) k al h).1, .int (nI (cyS (plC n σ) (moC n σ 15) k al h).2), .int (nI h)] [] (xMs τ) (xQ (fun v σ' => v = some (.int (cyF (plC n σ) (moC n σ 15) k)) ∧ frQ σ σ')) := by
    intro j
    induction j with
    | zero =>
      intro h τ hh hI
      obtain rfl : h = 2 ^ n := by omega
      have hn' : τ 3 5 = nI n := by rw [hI.2.2 3 (by decide) (by decide) (by decide)]; exact hn
      refine x_iload dX8_carry_52 rfl ?_
      refine x_iconst (v := 1) dX8_carry_54 (by decide) ?_
      refine x_aload_n dX8_carry_55 rfl ?_
      refine s_getr (ci := 8) (k := 1) (N := 10) (C := RX8) (T := TX8) dX8_carry_56 lfX8_19 inX8 rfl (by decide) (rfl) rfl ?_
      refine s_getiN (ci := 3) (k := 5) (N := 8) (C := RX3) (T := TX3) dX8_carry_59 lfX8_187 inX3 rfl (by decide) (rfl) rfl ?_
      refine x_ishl dX8_carry_62 ?_
      rw [hn', e1n]
      refine x_icmp_ge (tgt := 111) dX8_carry_63 (by decide) (fun c_63 => ?_) (fun c_63 => (absurd (Int32.le_refl _) c_63))
      refine x_iload_n dX8_carry_111 rfl ?_
      exact s_iret dX8_carry_112 rfl (⟨by rw [e _ rfl], fun c hc => hI.2.2 c (by omega) (by omega) (by omega)⟩)
    | succ j ih =>
      intro h τ hh hI
      have hkn : h < 2 ^ n := by omega
      have h256 : h < 256 := by omega
      have hn' : τ 3 5 = nI n := by rw [hI.2.2 3 (by decide) (by decide) (by decide)]; exact hn
      have hmo : moC n τ 15 = moC n σ 15 := moC_fr (fun c a b => hI.2.2 c (by omega) (by omega) (by omega))
      have hle := cyS_le (plC n σ) (moC n σ 15) k al h
      have ho8 := onF_le h 8
      have step : ∀ (x : Int32) (y : Nat) (τ2 : Sg), (x, y) = cyS (plC n σ) (moC n σ 15) k al (h + 1) → (∀ c, c ≠ 61 → τ2 c = τ c) → Ex (YX8_carry, 12, xB0, none) 52 [.ref 0, .int (nI k), .int (nI al), .int x, .int (nI y), .int (nI (h + 1))] [] (xMs τ2) (xQ (fun v σ' => v = some (.int (cyF (plC n σ) (moC n σ 15) k)) ∧ frQ σ σ')) := fun x y τ2 hx hf => by
        have := ih (h + 1) τ2 (by omega) ⟨by rw [hf 59 (by decide)]; exact hI.1, fun i hi => by rw [hf 60 (by decide)]; exact hI.2.1 i hi, fun c a b d => by rw [hf c d]; exact hI.2.2 c a b d⟩
        rw [← hx] at this
        exact this
      have same : ∀ (τ2 : Sg), ¬ ((h &&& al = h ∧ onF h 8 < (cyS (plC n σ) (moC n σ 15) k al h).2) ∧ caF (plC n σ) (moC n σ 15) 0 h (nI k) = nI k) → (∀ c, c ≠ 61 → τ2 c = τ c) → Ex (YX8_carry, 12, xB0, none) 52 [.ref 0, .int (nI k), .int (nI al), .int (cyS (plC n σ) (moC n σ 15) k al h).1, .int (nI (cyS (plC n σ) (moC n σ 15) k al h).2), .int (nI (h + 1))] [] (xMs τ2) (xQ (fun v σ' => v = some (.int (cyF (plC n σ) (moC n σ 15) k)) ∧ frQ σ σ')) := fun τ2 h1 hf => step _ _ τ2 (if_neg h1).symm hf
      refine x_iload dX8_carry_52 rfl ?_
      refine x_iconst (v := 1) dX8_carry_54 (by decide) ?_
      refine x_aload_n dX8_carry_55 rfl ?_
      refine s_getr (ci := 8) (k := 1) (N := 10) (C := RX8) (T := TX8) dX8_carry_56 lfX8_19 inX8 rfl (by decide) (rfl) rfl ?_
      refine s_getiN (ci := 3) (k := 5) (N := 8) (C := RX3) (T := TX3) dX8_carry_59 lfX8_187 inX3 rfl (by decide) (rfl) rfl ?_
      refine x_ishl dX8_carry_62 ?_
      rw [hn', e1n]
      refine x_icmp_ge (tgt := 111) dX8_carry_63 (by decide) (fun c_63 => (absurd c_63 (nI_ge hkn (by omega)))) (fun c_63 => ?_)
      refine x_iload dX8_carry_66 rfl ?_
      refine x_iload_n dX8_carry_68 rfl ?_
      refine x_iconst (v := -1) dX8_carry_69 (by decide) ?_
      refine x_ixor dX8_carry_70 ?_
      refine x_iand dX8_carry_71 ?_
      refine x_if_ne (tgt := 105) dX8_carry_72 (by decide) (fun c_72 => ?_) (fun c_72 => ?_)
      · refine s_iinc dX8_carry_105 rfl (Nat.le_of_ble_eq_true rfl) rfl ?_
        refine x_goto (tgt := 52) dX8_carry_108 (by decide) ?_
        first
          | exact same _ (fun z => c_72 ((sub_iff h256).mpr z.1.1)) (fun c _ => rfl)
          | exact same _ (fun z => absurd c_82 (nI_ge z.1.2 (by omega))) (fun c _ => rfl)
          | exact same _ (fun z => by rw [decide_eq_true z.2] at c_92; exact absurd c_92 (by decide)) hf
          | exact step _ _ _ (if_pos ⟨⟨(sub_iff h256).mp c_72, (nI_ltI (by omega) (by omega)).mp (Int32.not_le.mp c_82)⟩, of_decide_eq_true (bI_n c_92)⟩).symm hf
      · refine x_iload dX8_carry_75 rfl ?_
        refine s_callS dX8_carry_77 (k_bitCount τ h256) rfl w_J6_bitCount_0f7a4 lmX8_190 st_J6_bitCount_0f7a4 rfl (Nat.le_of_ble_eq_true rfl) rfl (by decide) (fun v_77 σ_77 h_77 => ?_)
        obtain ⟨rfl, z_77⟩ := h_77
        have z_77 := z_77.symm
        subst z_77
        refine x_iload dX8_carry_80 rfl ?_
        refine x_icmp_ge (tgt := 105) dX8_carry_82 (by decide) (fun c_82 => ?_) (fun c_82 => ?_)
        · refine s_iinc dX8_carry_105 rfl (Nat.le_of_ble_eq_true rfl) rfl ?_
          refine x_goto (tgt := 52) dX8_carry_108 (by decide) ?_
          first
            | exact same _ (fun z => c_72 ((sub_iff h256).mpr z.1.1)) (fun c _ => rfl)
            | exact same _ (fun z => absurd c_82 (nI_ge z.1.2 (by omega))) (fun c _ => rfl)
            | exact same _ (fun z => by rw [decide_eq_true z.2] at c_92; exact absurd c_92 (by decide)) hf
            | exact step _ _ _ (if_pos ⟨⟨(sub_iff h256).mp c_72, (nI_ltI (by omega) (by omega)).mp (Int32.not_le.mp c_82)⟩, of_decide_eq_true (bI_n c_92)⟩).symm hf
        · refine x_aload_n dX8_carry_85 rfl ?_
          refine x_iload dX8_carry_86 rfl ?_
          refine x_iload_n dX8_carry_88 rfl ?_
          refine s_callV dX8_carry_89 (k_isCarriedWith τ (s := k) hI.1 hn8 h256 (plC n σ) (moC n σ 15) rfl hmo hI.2.1) rfl w_X8_isCarriedWith lmX8_195 im_X8_isCarriedWith se_X8_isCarriedWith rfl (rfl) rfl (Nat.le_of_ble_eq_true rfl) rfl (by decide) (fun v_89 σ_89 h_89 => ?_)
          obtain ⟨rfl, hf⟩ := h_89
          refine x_if_eq (tgt := 105) dX8_carry_92 (by decide) (fun c_92 => ?_) (fun c_92 => ?_)
          · refine s_iinc dX8_carry_105 rfl (Nat.le_of_ble_eq_true rfl) rfl ?_
            refine x_goto (tgt := 52) dX8_carry_108 (by decide) ?_
            first
              | exact same _ (fun z => c_72 ((sub_iff h256).mpr z.1.1)) (fun c _ => rfl)
              | exact same _ (fun z => absurd c_82 (nI_ge z.1.2 (by omega))) (fun c _ => rfl)
              | exact same _ (fun z => by rw [decide_eq_true z.2] at c_92; exact absurd c_92 (by decide)) hf
              | exact step _ _ _ (if_pos ⟨⟨(sub_iff h256).mp c_72, (nI_ltI (by omega) (by omega)).mp (Int32.not_le.mp c_82)⟩, of_decide_eq_true (bI_n c_92)⟩).symm hf
          · refine x_iload dX8_carry_95 rfl ?_
            refine s_callS dX8_carry_97 (k_bitCount σ_89 h256) rfl w_J6_bitCount_0f7a4 lmX8_190 st_J6_bitCount_0f7a4 rfl (Nat.le_of_ble_eq_true rfl) rfl (by decide) (fun v_97 σ_97 h_97 => ?_)
            obtain ⟨rfl, z_97⟩ := h_97
            have z_97 := z_97.symm
            subst z_97
            refine x_istore dX8_carry_100 (Nat.le_of_ble_eq_true rfl) rfl ?_
            refine x_iload dX8_carry_102 rfl ?_
            refine x_istore_n dX8_carry_104 (Nat.le_of_ble_eq_true rfl) rfl ?_
            refine s_iinc dX8_carry_105 rfl (Nat.le_of_ble_eq_true rfl) rfl ?_
            refine x_goto (tgt := 52) dX8_carry_108 (by decide) ?_
            first
              | exact same _ (fun z => c_72 ((sub_iff h256).mpr z.1.1)) (fun c _ => rfl)
              | exact same _ (fun z => absurd c_82 (nI_ge z.1.2 (by omega))) (fun c _ => rfl)
              | exact same _ (fun z => by rw [decide_eq_true z.2] at c_92; exact absurd c_92 (by decide)) hf
              | exact step _ _ _ (if_pos ⟨⟨(sub_iff h256).mp c_72, (nI_ltI (by omega) (by omega)).mp (Int32.not_le.mp c_82)⟩, of_decide_eq_true (bI_n c_92)⟩).symm hf
  refine x_aload_n dX8_carry_0 rfl ?_
  refine s_getr (ci := 8) (k := 1) (N := 10) (C := RX8) (T := TX8) dX8_carry_1 lfX8_19 inX8 rfl (by decide) (rfl) rfl ?_
  refine x_iload_n dX8_carry_4 rfl ?_
  refine s_callV dX8_carry_5 (k_has σ pl_3 hn hn8 (nI k)) rfl w_X3_has lmX8_100 im_X3_has se_X3_has rfl (rfl) rfl (Nat.le_of_ble_eq_true rfl) rfl (by decide) (fun v_5 σ_5 h_5 => ?_)
  obtain ⟨rfl, z_5⟩ := h_5
  have z_5 := z_5.symm
  subst z_5
  refine x_if_ne (tgt := 14) dX8_carry_8 (by decide) (fun c_8 => ?_) (fun c_8 => (absurd c_8 (by rw [inb_nI hk (by omega)]; decide)))
  refine x_aload_n dX8_carry_14 rfl ?_
  refine s_getr (ci := 8) (k := 1) (N := 10) (C := RX8) (T := TX8) dX8_carry_15 lfX8_19 inX8 rfl (by decide) (rfl) rfl ?_
  refine s_callV dX8_carry_18 (k_votingBits σ hn hn8) rfl w_X3_votingBits lmX8_183 im_X3_votingBits se_X3_votingBits rfl (rfl) rfl (Nat.le_of_ble_eq_true rfl) rfl (by decide) (fun v_18 σ_18 h_18 => ?_)
  obtain ⟨rfl, z_18⟩ := h_18
  have z_18 := z_18.symm
  subst z_18
  refine x_iconst (v := 1) dX8_carry_21 (by decide) ?_
  refine x_iload_n dX8_carry_22 rfl ?_
  refine x_ishl dX8_carry_23 ?_
  refine x_iconst (v := -1) dX8_carry_24 (by decide) ?_
  refine x_ixor dX8_carry_25 ?_
  refine x_iand dX8_carry_26 ?_
  rw [eal]
  refine x_istore_n dX8_carry_27 (Nat.le_of_ble_eq_true rfl) rfl ?_
  refine x_iconst (v := -1) dX8_carry_28 (by decide) ?_
  refine x_istore_n dX8_carry_29 (Nat.le_of_ble_eq_true rfl) rfl ?_
  refine x_bipush (v := 9) dX8_carry_30 (by decide) ?_
  refine x_istore dX8_carry_32 (Nat.le_of_ble_eq_true rfl) rfl ?_
  refine x_aload_n dX8_carry_34 rfl ?_
  refine s_getr (ci := 8) (k := 8) (N := 10) (C := RX8) (T := TX8) dX8_carry_35 lfX8_60 inX8 rfl (by decide) (rfl) rfl ?_
  refine x_aload_n dX8_carry_38 rfl ?_
  refine s_getr (ci := 8) (k := 1) (N := 10) (C := RX8) (T := TX8) dX8_carry_39 lfX8_19 inX8 rfl (by decide) (rfl) rfl ?_
  refine x_aload_n dX8_carry_42 rfl ?_
  refine s_getr (ci := 8) (k := 3) (N := 10) (C := RX8) (T := TX8) dX8_carry_43 lfX8_29 inX8 rfl (by decide) (rfl) rfl ?_
  refine s_callV dX8_carry_46 (k_choose σ mo_15 hn hn8) rfl w_X0_choose lmX8_124 im_X0_choose se_X0_choose rfl (rfl) rfl (Nat.le_of_ble_eq_true rfl) rfl (by decide) (fun v_46 σ_46 h_46 => ?_)
  obtain ⟨rfl, C, hC, rfl⟩ := h_46
  refine x_iconst (v := 0) dX8_carry_49 (by decide) ?_
  refine x_istore dX8_carry_50 (Nat.le_of_ble_eq_true rfl) rfl ?_
  exact loop (2 ^ n) 0 _ (by omega) ⟨by rw [sw_n _ _ (by decide), sg_s], fun i hi => by rw [sw_s]; exact hC i hi, fun c a b d => by rw [sw_n _ _ b, sg_n _ _ _ a]⟩
