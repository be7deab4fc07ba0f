/-! ===== RainBallotModel's calls, 4: chance ===== -/

theorem nI_div {a b : Nat} (ha : a < 2 ^ 31) (hb : b < 2 ^ 31) : nI a / nI b = nI (a / b) := by
  have h : a / b ≤ a := Nat.div_le_self a b
  apply Int32.toInt_inj.mp
  rw [Int32.toInt_div, nI_toInt ha, nI_toInt hb, nI_toInt (by omega), ← Int.ofNat_tdiv]
  generalize a / b = d at h ⊢
  apply Int.bmod_eq_of_le <;> omega
theorem nI_rem {a b : Nat} (ha : a < 2 ^ 31) (hb : b < 2 ^ 31) : nI a - nI a / nI b * nI b = nI (a % b) := by
  rw [nI_div ha hb, nI_mul, nI_sub (Nat.div_mul_le_self a b)]
  congr 1
  have := Nat.div_add_mod a b
  rw [Nat.mul_comm] at this
  omega
set_option maxRecDepth 100000 in
theorem k_mchance_u (σ : Sg) {n : Nat} (hn : σ 83 0 = nI n) (hn8 : n ≤ 8) (s w t : Int32) (hs : inb n s = false) (h1 : ¬ s = -1) : Cm 12 YX9_chance [.ref 81, .int s, .int w, .int t] σ (fun v σ' => v = some (.int (-2)) ∧ σ' = σ) := by
  refine Cm_of (by decide +kernel) (Nat.le_of_ble_eq_true rfl) ?_
  refine x_iload_n dX9_chance_0 rfl ?_
  refine x_iconst (v := -1) dX9_chance_1 (by decide) ?_
  refine x_icmp_eq (tgt := 16) dX9_chance_2 (by decide) (fun c_2 => (absurd c_2 h1)) (fun c_2 => ?_)
  refine x_aload_n dX9_chance_5 rfl ?_
  refine x_iload_n dX9_chance_6 rfl ?_
  refine s_callV dX9_chance_7 (k_isStreet σ hn hn8 _) rfl w_X9_isStreet lmX9_129 im_X9_isStreet se_X9_isStreet rfl (rfl) rfl (Nat.le_of_ble_eq_true rfl) rfl (by decide) (fun v_7 σ_7 h_7 => ?_)
  obtain ⟨rfl, z_7⟩ := h_7
  have z_7 := z_7.symm
  subst z_7
  refine x_if_ne (tgt := 16) dX9_chance_10 (by decide) (fun c_10 => (absurd (by rw [hs]; rfl) c_10)) (fun c_10 => ?_)
  refine x_bipush (v := -2) dX9_chance_13 (by decide) ?_
  exact s_iret dX9_chance_15 rfl (⟨rfl, rfl⟩)
set_option maxRecDepth 100000 in
theorem k_mchance_o (σ : Sg) {n : Nat} (hn : σ 83 0 = nI n) (hn8 : n ≤ 8) (s w t : Int32) (hs : inq n s) (h : rgF 0 10 w = false ∨ rgF 0 1 t = false) : Cm 12 YX9_chance [.ref 81, .int s, .int w, .int t] σ (fun v σ' => v = some (.int (-3)) ∧ σ' = σ) := by
  refine Cm_of (by decide +kernel) (Nat.le_of_ble_eq_true rfl) ?_
  have hb : ¬ s = -1 → inb n s = true := fun h1 => by rcases hs with q | ⟨k, hk, rfl⟩; exact absurd q h1; exact inb_nI hk (by omega)
  have ok : ∀ {q : Prop}, ¬ bI (rgF 0 10 w) = 0 → ¬ bI (rgF 0 1 t) = 0 → q := fun h1 h2 => by
    rcases h with q | q
    · rw [q] at h1; exact absurd rfl h1
    · rw [q] at h2; exact absurd rfl h2
  refine x_iload_n dX9_chance_0 rfl ?_
  refine x_iconst (v := -1) dX9_chance_1 (by decide) ?_
  refine x_icmp_eq (tgt := 16) dX9_chance_2 (by decide) (fun c_2 => ?_) (fun c_2 => ?_)
  · refine x_iload_n dX9_chance_16 rfl ?_
    refine x_iconst (v := 0) dX9_chance_17 (by decide) ?_
    refine x_bipush (v := 10) dX9_chance_18 (by decide) ?_
    refine s_callS dX9_chance_20 (k_in σ _ _ _) rfl w_X9_in lmX9_51 st_X9_in rfl (Nat.le_of_ble_eq_true rfl) rfl (by decide) (fun v_20 σ_20 h_20 => ?_)
    obtain ⟨rfl, z_20⟩ := h_20
    have z_20 := z_20.symm
    subst z_20
    refine x_if_eq (tgt := 35) dX9_chance_23 (by decide) (fun c_23 => ?_) (fun c_23 => ?_)
    · refine x_bipush (v := -3) dX9_chance_35 (by decide) ?_
      exact s_iret dX9_chance_37 rfl (⟨rfl, rfl⟩)
    · refine x_iload_n dX9_chance_26 rfl ?_
      refine x_iconst (v := 0) dX9_chance_27 (by decide) ?_
      refine x_iconst (v := 1) dX9_chance_28 (by decide) ?_
      refine s_callS dX9_chance_29 (k_in σ _ _ _) rfl w_X9_in lmX9_51 st_X9_in rfl (Nat.le_of_ble_eq_true rfl) rfl (by decide) (fun v_29 σ_29 h_29 => ?_)
      obtain ⟨rfl, z_29⟩ := h_29
      have z_29 := z_29.symm
      subst z_29
      refine x_if_ne (tgt := 38) dX9_chance_32 (by decide) (fun c_32 => (ok c_23 c_32)) (fun c_32 => ?_)
      refine x_bipush (v := -3) dX9_chance_35 (by decide) ?_
      exact s_iret dX9_chance_37 rfl (⟨rfl, rfl⟩)
  · refine x_aload_n dX9_chance_5 rfl ?_
    refine x_iload_n dX9_chance_6 rfl ?_
    refine s_callV dX9_chance_7 (k_isStreet σ hn hn8 _) rfl w_X9_isStreet lmX9_129 im_X9_isStreet se_X9_isStreet rfl (rfl) rfl (Nat.le_of_ble_eq_true rfl) rfl (by decide) (fun v_7 σ_7 h_7 => ?_)
    obtain ⟨rfl, z_7⟩ := h_7
    have z_7 := z_7.symm
    subst z_7
    refine x_if_ne (tgt := 16) dX9_chance_10 (by decide) (fun c_10 => ?_) (fun c_10 => (absurd c_10 (by rw [hb c_2]; decide)))
    refine x_iload_n dX9_chance_16 rfl ?_
    refine x_iconst (v := 0) dX9_chance_17 (by decide) ?_
    refine x_bipush (v := 10) dX9_chance_18 (by decide) ?_
    refine s_callS dX9_chance_20 (k_in σ _ _ _) rfl w_X9_in lmX9_51 st_X9_in rfl (Nat.le_of_ble_eq_true rfl) rfl (by decide) (fun v_20 σ_20 h_20 => ?_)
    obtain ⟨rfl, z_20⟩ := h_20
    have z_20 := z_20.symm
    subst z_20
    refine x_if_eq (tgt := 35) dX9_chance_23 (by decide) (fun c_23 => ?_) (fun c_23 => ?_)
    · refine x_bipush (v := -3) dX9_chance_35 (by decide) ?_
      exact s_iret dX9_chance_37 rfl (⟨rfl, rfl⟩)
    · refine x_iload_n dX9_chance_26 rfl ?_
      refine x_iconst (v := 0) dX9_chance_27 (by decide) ?_
      refine x_iconst (v := 1) dX9_chance_28 (by decide) ?_
      refine s_callS dX9_chance_29 (k_in σ _ _ _) rfl w_X9_in lmX9_51 st_X9_in rfl (Nat.le_of_ble_eq_true rfl) rfl (by decide) (fun v_29 σ_29 h_29 => ?_)
      obtain ⟨rfl, z_29⟩ := h_29
      have z_29 := z_29.symm
      subst z_29
      refine x_if_ne (tgt := 38) dX9_chance_32 (by decide) (fun c_32 => (ok c_23 c_32)) (fun c_32 => ?_)
      refine x_bipush (v := -3) dX9_chance_35 (by decide) ?_
      exact s_iret dX9_chance_37 rfl (⟨rfl, rfl⟩)
set_option maxRecDepth 100000 in
set_option maxHeartbeats 1000000 in
theorem k_mchance (σ : Sg) {n q t : Nat} (hn : σ 83 0 = nI n) (hn8 : n ≤ 8) (hb : NB σ) (s : Int32) (hs : inq n s) (hq : q ≤ 10) (ht : t ≤ 1) : Cm 12 YX9_chance [.ref 81, .int s, .int (nI q), .int (nI t)] σ (fun v σ' => v = some (.int (odF (plM n σ 83) (moS n σ) s q t)) ∧ fM σ σ') := by
  refine Cm_of (by decide +kernel) (Nat.le_of_ble_eq_true rfl) ?_
  have hbs : ¬ s = -1 → inb n s = true := fun h1 => by rcases hs with q | ⟨k, hk, rfl⟩; exact absurd q h1; exact inb_nI hk (by omega)
  have hp256 : 2 ^ n ≤ 256 := Nat.pow_le_pow_right (by decide) hn8
  have hp10 : 10 ^ n ≤ 100000000 := Nat.pow_le_pow_right (n := 10) (by decide) hn8
  have hp0 : 0 < 10 ^ n := Nat.pow_pos (by decide)
  have e1n : (1 : Int32) <<< (nI n &&& 31) = nI (2 ^ n) := bz_shl (by omega)
  have hA : suF (plM n σ 83) (moS n σ) s q (2 ^ n) ≤ 10 ^ n := Nat.le_trans (suF_le (plM n σ 83) (moS n σ) s q (2 ^ n)) (Nat.le_of_eq (ts_all hq n))
  have e10 : (10 : Int32) - nI q = nI (10 - q) := nI_sub (a := 10) hq
  have eod : ∀ G, G = Nat.gcd (10 ^ n) (suF (plM n σ 83) (moS n σ) s q (2 ^ n)) → odF (plM n σ 83) (moS n σ) s q t = nI ((if t = 0 then suF (plM n σ 83) (moS n σ) s q (2 ^ n) else 10 ^ n) / G) := fun G h => by rw [h]; rfl
  -- Euclid
  have loop3 : ∀ (A : Nat) (τ : Sg) (R : Option Value → xM → Prop), A ≤ 10 ^ n → (∀ V, Ex (YX9_chance, 12, xB0, none) 201 [.ref 81, .int s, .int (nI q), .int (nI t), .int (nI A), .int (nI (10 ^ n)), .int (nI (Nat.gcd (10 ^ n) A)), .int (nI 0), V] [] (xMs τ) R) → ∀ (f b a : Nat) (V : Value), b < f → b ≤ 10 ^ n → a ≤ 10 ^ n → Nat.gcd b a = Nat.gcd (10 ^ n) A → Ex (YX9_chance, 12, xB0, none) 178 [.ref 81, .int s, .int (nI q), .int (nI t), .int (nI A), .int (nI (10 ^ n)), .int (nI a), .int (nI b), V] [] (xMs τ) R := by
    intro A τ R hA hk f
    induction f with
    | zero => intro b a V h; omega
    | succ f ih =>
      intro b a V hf hb1 ha hg
      have fin : b = 0 → Ex (YX9_chance, 12, xB0, none) 201 [.ref 81, .int s, .int (nI q), .int (nI t), .int (nI A), .int (nI (10 ^ n)), .int (nI a), .int (nI b), V] [] (xMs τ) R := fun h => by
        subst h
        rw [Nat.gcd_zero_left] at hg
        rw [hg]
        exact hk V
      have hb0 : ¬ nI b ≤ 0 → 0 < b := fun h => by
        rcases Nat.eq_zero_or_pos b with z | z
        · rw [z] at h; exact absurd (by decide) h
        · exact z
      have hb1' : nI b ≤ 0 → b = 0 := fun h => by
        rcases Nat.eq_zero_or_pos b with z | z
        · exact z
        · exact absurd h (nI_nle z (by omega))
      refine x_iload dX9_chance_178 rfl ?_
      refine x_if_le (tgt := 201) dX9_chance_180 (by decide) (fun c_180 => ?_) (fun c_180 => ?_)
      · exact fin (hb1' c_180)
      · refine x_iload dX9_chance_183 rfl ?_
        refine x_iload dX9_chance_185 rfl ?_
        refine x_irem dX9_chance_187 (fun z => nI_ne0 (hb0 c_180) (by omega) z) ?_
        rw [nI_rem (a := a) (b := b) (by omega) (by omega)]
        refine x_istore dX9_chance_188 (Nat.le_of_ble_eq_true rfl) rfl ?_
        refine x_iload dX9_chance_190 rfl ?_
        refine x_istore dX9_chance_192 (Nat.le_of_ble_eq_true rfl) rfl ?_
        refine x_iload dX9_chance_194 rfl ?_
        refine x_istore dX9_chance_196 (Nat.le_of_ble_eq_true rfl) rfl ?_
        refine x_goto (tgt := 178) dX9_chance_198 (by decide) ?_
        have hlt : a % b < b := Nat.mod_lt _ (hb0 c_180)
        exact ih (a % b) b _ (by omega) (by omega) hb1 (by rw [← Nat.gcd_rec]; exact hg)
  have loop2 : ∀ (j h : Nat) (τ : Sg) (V7 V8 : Value), h + j = 2 ^ n → ((∀ i, i ≠ 16 → τ 81 i = σ 81 i) ∧ ∀ c, c ≠ 81 → c ≠ 90 → τ c = σ c) → Ex (YX9_chance, 12, xB0, none) 74 [.ref 81, .int s, .int (nI q), .int (nI t), .int (nI (suF (plM n σ 83) (moS n σ) s q h)), .int (nI (10 ^ n)), .int (nI h), V7, V8] [] (xMs τ) (xQ (fun v σ' => v = some (.int (odF (plM n σ 83) (moS n σ) s q t)) ∧ fM σ σ')) := by
    intro j
    induction j with
    | zero =>
      intro h τ V7 V8 hh hI
      obtain rfl : h = 2 ^ n := by omega
      have hn' : τ 83 0 = nI n := by rw [hI.2 83 (by decide) (by decide)]; exact hn
      have fin : ∀ (τ2 : Sg), τ2 = sg τ 81 16 0 → fM σ τ2 := fun τ2 e => ⟨fun i _ => by rw [e, sg_n _ _ _ (by decide), hI.2 85 (by decide) (by decide)], fun i => by
        by_cases i16 : i = 16
        · rw [i16, e, sg_s, hb.1]; rfl
        · rw [e, sg_k _ _ _ i16]; exact hI.1 i i16, fun c a _ d _ => by rw [e, sg_n _ _ _ a]; exact hI.2 c a d⟩
      generalize suF (plM n σ 83) (moS n σ) s q (2 ^ n) = A at hA eod
      have hG : 0 < Nat.gcd (10 ^ n) A := Nat.gcd_pos_of_pos_left _ hp0
      have hG2 : Nat.gcd (10 ^ n) A ≤ 10 ^ n := Nat.gcd_le_left _ hp0
      refine x_iload dX9_chance_74 rfl ?_
      refine x_iconst (v := 1) dX9_chance_76 (by decide) ?_
      refine x_aload_n dX9_chance_77 rfl ?_
      refine s_getr (ci := 9) (k := 2) (N := 20) (C := RX9) (T := TX9) dX9_chance_78 lfX9_13 inX9 rfl (by decide) (rfl) rfl ?_
      refine x_iconst (v := 0) dX9_chance_81 (by decide) ?_
      refine s_iald dX9_chance_82 (rfl) (j := 0) (hi := by decide) (hj := by omega) (hn := by decide) ?_
      refine x_ishl dX9_chance_83 ?_
      rw [hn', e1n]
      refine x_icmp_ge (tgt := 165) dX9_chance_84 (by decide) (fun c_84 => ?_) (fun c_84 => (absurd (Int32.le_refl _) c_84))
      refine x_aload_n dX9_chance_165 rfl ?_
      refine x_iconst (v := 0) dX9_chance_166 (by decide) ?_
      refine s_puti (ci := 9) (k := 16) (N := 20) (C := RX9) (T := TX9) (ty0 := tyX9) dX9_chance_167 lfX9_123 inX9 tyX9_ok nmX9 rfl (by decide) rfl rfl (rfl) rfl ?_
      refine xname (fun σ_167 e_167 => ?_)
      refine x_iload dX9_chance_170 rfl ?_
      refine x_istore dX9_chance_172 (Nat.le_of_ble_eq_true rfl) rfl ?_
      refine x_iload dX9_chance_174 rfl ?_
      refine x_istore dX9_chance_176 (Nat.le_of_ble_eq_true rfl) rfl ?_
      refine loop3 A σ_167 _ hA (fun V => ?_) (10 ^ n + 1) (10 ^ n) A _ (by omega) (Nat.le_refl _) hA rfl
      have ft := fin _ e_167
      refine x_iload_n dX9_chance_201 rfl ?_
      refine x_if_ne (tgt := 213) dX9_chance_202 (by decide) (fun c_202 => ?_) (fun c_202 => ?_)
      · refine x_iload dX9_chance_213 rfl ?_
        refine x_iload dX9_chance_215 rfl ?_
        refine x_idiv dX9_chance_217 (fun z => nI_ne0 hG (by omega) z) ?_
        skip
        refine s_iret dX9_chance_218 rfl ?_
        first
          | (refine ⟨?_, ft⟩
             rw [eod _ rfl, if_pos (show t = 0 from (nI_eq (b := 0) (by omega) (by decide)).mp c_202)]
             done)
          | (refine ⟨?_, ft⟩
             rw [nI_div (by omega) (by omega), eod _ rfl, if_neg (show ¬ t = 0 from fun z => c_202 (by rw [z]; rfl))]
             done)
      · refine x_iload dX9_chance_205 rfl ?_
        refine x_iload dX9_chance_207 rfl ?_
        refine x_idiv dX9_chance_209 (fun z => nI_ne0 hG (by omega) z) ?_
        rw [nI_div (by omega) (by omega)]
        refine x_goto (tgt := 218) dX9_chance_210 (by decide) ?_
        skip
        refine s_iret dX9_chance_218 rfl ?_
        first
          | (refine ⟨?_, ft⟩
             rw [eod _ rfl, if_pos (show t = 0 from (nI_eq (b := 0) (by omega) (by decide)).mp c_202)]
             done)
          | (refine ⟨?_, ft⟩
             rw [nI_div (by omega) (by omega), eod _ rfl, if_neg (show ¬ t = 0 from fun z => c_202 (by rw [z]; rfl))]
             done)
    | succ j ih =>
      intro h τ V7 V8 hh hI
      have hkn : h < 2 ^ n := by omega
      have hn' : τ 83 0 = nI n := by rw [hI.2 83 (by decide) (by decide)]; exact hn
      have ep : plM n τ 83 = plM n σ 83 := plM_fr (hI.2 83 (by decide) (by decide))
      have em : moS n τ = moS n σ := by unfold moS; rw [hI.2 85 (by decide) (by decide)]
      have step : ∀ (x : Int32) (τ2 : Sg) (V7 V8 : Value), x = nI (suF (plM n σ 83) (moS n σ) s q (h + 1)) → ((∀ i, i ≠ 16 → τ2 81 i = σ 81 i) ∧ ∀ c, c ≠ 81 → c ≠ 90 → τ2 c = σ c) → Ex (YX9_chance, 12, xB0, none) 74 [.ref 81, .int s, .int (nI q), .int (nI t), .int x, .int (nI (10 ^ n)), .int (nI (h + 1)), V7, V8] [] (xMs τ2) (xQ (fun v σ' => v = some (.int (odF (plM n σ 83) (moS n σ) s q t)) ∧ fM σ σ')) := fun x τ2 V7 V8 hx hf => by
        subst hx
        exact ih (h + 1) τ2 _ _ (by omega) hf
      have inner : ∀ (i k : Nat), k + i = n → Ex (YX9_chance, 12, xB0, none) 93 [.ref 81, .int s, .int (nI q), .int (nI t), .int (nI (suF (plM n σ 83) (moS n σ) s q h)), .int (nI (10 ^ n)), .int (nI h), .int (nI (wtF q h k)), .int (nI k)] [] (xMs τ) (xQ (fun v σ' => v = some (.int (odF (plM n σ 83) (moS n σ) s q t)) ∧ fM σ σ')) := by
        intro i
        induction i with
        | zero =>
          intro k hk
          obtain rfl : k = n := by omega
          refine x_iload dX9_chance_93 rfl ?_
          refine x_aload_n dX9_chance_95 rfl ?_
          refine s_getr (ci := 9) (k := 2) (N := 20) (C := RX9) (T := TX9) dX9_chance_96 lfX9_13 inX9 rfl (by decide) (rfl) rfl ?_
          refine x_iconst (v := 0) dX9_chance_99 (by decide) ?_
          refine s_iald dX9_chance_100 (rfl) (j := 0) (hi := by decide) (hj := by omega) (hn := by decide) ?_
          refine x_icmp_ge (tgt := 134) dX9_chance_101 (by decide) (fun c_101 => ?_) (fun c_101 => (absurd (by rw [hn']; exact Int32.le_refl _) c_101))
          refine x_aload_n dX9_chance_134 rfl ?_
          refine x_iload dX9_chance_135 rfl ?_
          refine s_puti (ci := 9) (k := 16) (N := 20) (C := RX9) (T := TX9) (ty0 := tyX9) dX9_chance_137 lfX9_123 inX9 tyX9_ok nmX9 rfl (by decide) rfl rfl (rfl) rfl ?_
          refine xname (fun σ_137 e_137 => ?_)
          refine x_iload dX9_chance_140 rfl ?_
          refine x_aload_n dX9_chance_142 rfl ?_
          refine s_callV dX9_chance_143 (k_carried σ_137 (n := k) (home := h) (turned := 0) (toward := -1) (by rw [e_137, sg_n _ _ _ (by decide)]; exact hn') hn8 (by omega) (by decide) (Or.inl rfl) (by rw [e_137, sg_s]) (by rw [e_137, sg_k _ _ _ (by decide), hI.1 17 (by decide)]; exact hb.2.1) (by rw [e_137, sg_k _ _ _ (by decide), hI.1 18 (by decide)]; exact hb.2.2)) rfl w_X9_carried lmX9_138 im_X9_carried se_X9_carried rfl (rfl) rfl (Nat.le_of_ble_eq_true rfl) rfl (by decide) (fun v_143 σ_143 h_143 => ?_)
          obtain ⟨rfl, cf⟩ := h_143
          have ep2 : plM k σ_137 83 = plM k σ 83 := by rw [plM_fr (by rw [e_137, sg_n _ _ _ (by decide)]), ep]
          have em2 : moS k σ_137 = moS k σ := by rw [← em]; unfold moS; rw [e_137, sg_n _ _ _ (by decide)]
          rw [ep2, em2]
          have hf2 : (∀ i, i ≠ 16 → σ_143 81 i = σ 81 i) ∧ ∀ c, c ≠ 81 → c ≠ 90 → σ_143 c = σ c := ⟨fun i a => by rw [cf 81 (by decide), e_137, sg_k _ _ _ a]; exact hI.1 i a, fun c a b => by rw [cf c b, e_137, sg_n _ _ _ a]; exact hI.2 c a b⟩
          have s1 : caF (plM k σ 83) (moS k σ) h 0 (-1) = s → nI (suF (plM k σ 83) (moS k σ) s q h) + nI (wtF q h k) = nI (suF (plM k σ 83) (moS k σ) s q (h + 1)) := fun z => by rw [suF_s, if_pos z, nI_add]; rfl
          have s2 : ¬ caF (plM k σ 83) (moS k σ) h 0 (-1) = s → nI (suF (plM k σ 83) (moS k σ) s q h) + 0 = nI (suF (plM k σ 83) (moS k σ) s q (h + 1)) := fun z => by rw [suF_s, if_neg z]; exact nI_add _ 0
          refine x_iload_n dX9_chance_146 rfl ?_
          refine x_icmp_ne (tgt := 155) dX9_chance_147 (by decide) (fun c_147 => ?_) (fun c_147 => ?_)
          · refine x_iconst (v := 0) dX9_chance_155 (by decide) ?_
            refine x_iadd dX9_chance_156 ?_
            refine x_istore dX9_chance_157 (Nat.le_of_ble_eq_true rfl) rfl ?_
            refine s_iinc dX9_chance_159 rfl (Nat.le_of_ble_eq_true rfl) rfl ?_
            refine x_goto (tgt := 74) dX9_chance_162 (by decide) ?_
            first
              | exact step _ _ _ _ (s1 c_147) hf2
              | exact step _ _ _ _ (s2 c_147) hf2
          · refine x_iload dX9_chance_150 rfl ?_
            refine x_goto (tgt := 156) dX9_chance_152 (by decide) ?_
            refine x_iadd dX9_chance_156 ?_
            refine x_istore dX9_chance_157 (Nat.le_of_ble_eq_true rfl) rfl ?_
            refine s_iinc dX9_chance_159 rfl (Nat.le_of_ble_eq_true rfl) rfl ?_
            refine x_goto (tgt := 74) dX9_chance_162 (by decide) ?_
            first
              | exact step _ _ _ _ (s1 c_147) hf2
              | exact step _ _ _ _ (s2 c_147) hf2
        | succ i ihi =>
          intro k hk
          have hkn2 : k < n := by omega
          have bt := bz_bit (a := h) (k := k) (by omega) (by omega)
          have w1 : h.testBit k = true → nI (wtF q h k) * nI q = nI (wtF q h (k + 1)) := fun z => by rw [nI_mul]; show _ = nI (wtF q h k * (if h.testBit k = true then q else 10 - q)); rw [if_pos z]
          have w2 : ¬ h.testBit k = true → nI (wtF q h k) * nI (10 - q) = nI (wtF q h (k + 1)) := fun z => by rw [nI_mul]; show _ = nI (wtF q h k * (if h.testBit k = true then q else 10 - q)); rw [if_neg z]
          refine x_iload dX9_chance_93 rfl ?_
          refine x_aload_n dX9_chance_95 rfl ?_
          refine s_getr (ci := 9) (k := 2) (N := 20) (C := RX9) (T := TX9) dX9_chance_96 lfX9_13 inX9 rfl (by decide) (rfl) rfl ?_
          refine x_iconst (v := 0) dX9_chance_99 (by decide) ?_
          refine s_iald dX9_chance_100 (rfl) (j := 0) (hi := by decide) (hj := by omega) (hn := by decide) ?_
          refine x_icmp_ge (tgt := 134) dX9_chance_101 (by decide) (fun c_101 => (absurd c_101 (by rw [hn']; exact nI_ge hkn2 (by omega)))) (fun c_101 => ?_)
          refine x_iload dX9_chance_104 rfl ?_
          refine x_iload dX9_chance_106 rfl ?_
          refine x_iload dX9_chance_108 rfl ?_
          refine x_ishr dX9_chance_110 ?_
          refine x_iconst (v := 1) dX9_chance_111 (by decide) ?_
          refine x_iand dX9_chance_112 ?_
          refine x_iconst (v := 1) dX9_chance_113 (by decide) ?_
          rw [bt]
          refine x_icmp_ne (tgt := 121) dX9_chance_114 (by decide) (fun c_114 => ?_) (fun c_114 => ?_)
          · refine x_bipush (v := 10) dX9_chance_121 (by decide) ?_
            refine x_iload_n dX9_chance_123 rfl ?_
            refine x_isub dX9_chance_124 ?_
            refine x_imul dX9_chance_125 ?_
            refine x_istore dX9_chance_126 (Nat.le_of_ble_eq_true rfl) rfl ?_
            refine s_iinc dX9_chance_128 rfl (Nat.le_of_ble_eq_true rfl) rfl ?_
            refine x_goto (tgt := 93) dX9_chance_131 (by decide) ?_
            first
              | (rw [e10, w2 (fun z => c_114 (bI_1.mpr z))]; exact ihi (k + 1) (by omega))
              | (rw [w1 (bI_1.mp c_114)]; exact ihi (k + 1) (by omega))
          · refine x_iload_n dX9_chance_117 rfl ?_
            refine x_goto (tgt := 125) dX9_chance_118 (by decide) ?_
            refine x_imul dX9_chance_125 ?_
            refine x_istore dX9_chance_126 (Nat.le_of_ble_eq_true rfl) rfl ?_
            refine s_iinc dX9_chance_128 rfl (Nat.le_of_ble_eq_true rfl) rfl ?_
            refine x_goto (tgt := 93) dX9_chance_131 (by decide) ?_
            first
              | (rw [e10, w2 (fun z => c_114 (bI_1.mpr z))]; exact ihi (k + 1) (by omega))
              | (rw [w1 (bI_1.mp c_114)]; exact ihi (k + 1) (by omega))
      refine x_iload dX9_chance_74 rfl ?_
      refine x_iconst (v := 1) dX9_chance_76 (by decide) ?_
      refine x_aload_n dX9_chance_77 rfl ?_
      refine s_getr (ci := 9) (k := 2) (N := 20) (C := RX9) (T := TX9) dX9_chance_78 lfX9_13 inX9 rfl (by decide) (rfl) rfl ?_
      refine x_iconst (v := 0) dX9_chance_81 (by decide) ?_
      refine s_iald dX9_chance_82 (rfl) (j := 0) (hi := by decide) (hj := by omega) (hn := by decide) ?_
      refine x_ishl dX9_chance_83 ?_
      rw [hn', e1n]
      refine x_icmp_ge (tgt := 165) dX9_chance_84 (by decide) (fun c_84 => (absurd c_84 (nI_ge hkn (by omega)))) (fun c_84 => ?_)
      refine x_iconst (v := 1) dX9_chance_87 (by decide) ?_
      refine x_istore dX9_chance_88 (Nat.le_of_ble_eq_true rfl) rfl ?_
      refine x_iconst (v := 0) dX9_chance_90 (by decide) ?_
      refine x_istore dX9_chance_91 (Nat.le_of_ble_eq_true rfl) rfl ?_
      exact inner n 0 (by omega)
  have loop1 : ∀ (j k : Nat), k + j = n → Ex (YX9_chance, 12, xB0, none) 47 [.ref 81, .int s, .int (nI q), .int (nI t), .int (nI 0), .int (nI (10 ^ k)), .int (nI k), .null, .null] [] (xMs σ) (xQ (fun v σ' => v = some (.int (odF (plM n σ 83) (moS n σ) s q t)) ∧ fM σ σ')) := by
    intro j
    induction j with
    | zero =>
      intro k hk
      obtain rfl : k = n := by omega
      refine x_iload dX9_chance_47 rfl ?_
      refine x_aload_n dX9_chance_49 rfl ?_
      refine s_getr (ci := 9) (k := 2) (N := 20) (C := RX9) (T := TX9) dX9_chance_50 lfX9_13 inX9 rfl (by decide) (rfl) rfl ?_
      refine x_iconst (v := 0) dX9_chance_53 (by decide) ?_
      refine s_iald dX9_chance_54 (rfl) (j := 0) (hi := by decide) (hj := by omega) (hn := by decide) ?_
      refine x_icmp_ge (tgt := 71) dX9_chance_55 (by decide) (fun c_55 => ?_) (fun c_55 => (absurd (by rw [hn]; exact Int32.le_refl _) c_55))
      refine x_iconst (v := 0) dX9_chance_71 (by decide) ?_
      refine x_istore dX9_chance_72 (Nat.le_of_ble_eq_true rfl) rfl ?_
      exact loop2 (2 ^ k) 0 σ _ _ (by omega) ⟨fun _ _ => rfl, fun _ _ _ => rfl⟩
    | succ j ih =>
      intro k hk
      have hkn : k < n := by omega
      have e : nI (10 ^ k) * 10 = nI (10 ^ (k + 1)) := nI_mul (10 ^ k) 10
      refine x_iload dX9_chance_47 rfl ?_
      refine x_aload_n dX9_chance_49 rfl ?_
      refine s_getr (ci := 9) (k := 2) (N := 20) (C := RX9) (T := TX9) dX9_chance_50 lfX9_13 inX9 rfl (by decide) (rfl) rfl ?_
      refine x_iconst (v := 0) dX9_chance_53 (by decide) ?_
      refine s_iald dX9_chance_54 (rfl) (j := 0) (hi := by decide) (hj := by omega) (hn := by decide) ?_
      refine x_icmp_ge (tgt := 71) dX9_chance_55 (by decide) (fun c_55 => (absurd c_55 (by rw [hn]; exact nI_ge hkn (by omega)))) (fun c_55 => ?_)
      refine x_iload dX9_chance_58 rfl ?_
      refine x_bipush (v := 10) dX9_chance_60 (by decide) ?_
      refine x_imul dX9_chance_62 ?_
      rw [e]
      refine x_istore dX9_chance_63 (Nat.le_of_ble_eq_true rfl) rfl ?_
      refine s_iinc dX9_chance_65 rfl (Nat.le_of_ble_eq_true rfl) rfl ?_
      refine x_goto (tgt := 47) dX9_chance_68 (by decide) ?_
      exact ih (k + 1) (by omega)
  have r1 : rgF 0 10 (nI q) = true := rgF_i (a := 0) (b := 10) (by omega) hq (by decide)
  have r2 : rgF 0 1 (nI t) = true := rgF_i (a := 0) (b := 1) (by omega) ht (by decide)
  refine x_iload_n dX9_chance_0 rfl ?_
  refine x_iconst (v := -1) dX9_chance_1 (by decide) ?_
  refine x_icmp_eq (tgt := 16) dX9_chance_2 (by decide) (fun c_2 => ?_) (fun c_2 => ?_)
  · refine x_iload_n dX9_chance_16 rfl ?_
    refine x_iconst (v := 0) dX9_chance_17 (by decide) ?_
    refine x_bipush (v := 10) dX9_chance_18 (by decide) ?_
    refine s_callS dX9_chance_20 (k_in σ _ _ _) rfl w_X9_in lmX9_51 st_X9_in rfl (Nat.le_of_ble_eq_true rfl) rfl (by decide) (fun v_20 σ_20 h_20 => ?_)
    obtain ⟨rfl, z_20⟩ := h_20
    have z_20 := z_20.symm
    subst z_20
    refine x_if_eq (tgt := 35) dX9_chance_23 (by decide) (fun c_23 => (absurd c_23 (by rw [r1]; decide))) (fun c_23 => ?_)
    refine x_iload_n dX9_chance_26 rfl ?_
    refine x_iconst (v := 0) dX9_chance_27 (by decide) ?_
    refine x_iconst (v := 1) dX9_chance_28 (by decide) ?_
    refine s_callS dX9_chance_29 (k_in σ _ _ _) rfl w_X9_in lmX9_51 st_X9_in rfl (Nat.le_of_ble_eq_true rfl) rfl (by decide) (fun v_29 σ_29 h_29 => ?_)
    obtain ⟨rfl, z_29⟩ := h_29
    have z_29 := z_29.symm
    subst z_29
    refine x_if_ne (tgt := 38) dX9_chance_32 (by decide) (fun c_32 => ?_) (fun c_32 => (absurd c_32 (by rw [r2]; decide)))
    refine x_iconst (v := 0) dX9_chance_38 (by decide) ?_
    refine x_istore dX9_chance_39 (Nat.le_of_ble_eq_true rfl) rfl ?_
    refine x_iconst (v := 1) dX9_chance_41 (by decide) ?_
    refine x_istore dX9_chance_42 (Nat.le_of_ble_eq_true rfl) rfl ?_
    refine x_iconst (v := 0) dX9_chance_44 (by decide) ?_
    refine x_istore dX9_chance_45 (Nat.le_of_ble_eq_true rfl) rfl ?_
    exact loop1 n 0 (by omega)
  · refine x_aload_n dX9_chance_5 rfl ?_
    refine x_iload_n dX9_chance_6 rfl ?_
    refine s_callV dX9_chance_7 (k_isStreet σ hn hn8 _) rfl w_X9_isStreet lmX9_129 im_X9_isStreet se_X9_isStreet rfl (rfl) rfl (Nat.le_of_ble_eq_true rfl) rfl (by decide) (fun v_7 σ_7 h_7 => ?_)
    obtain ⟨rfl, z_7⟩ := h_7
    have z_7 := z_7.symm
    subst z_7
    refine x_if_ne (tgt := 16) dX9_chance_10 (by decide) (fun c_10 => ?_) (fun c_10 => (absurd c_10 (by rw [hbs c_2]; decide)))
    refine x_iload_n dX9_chance_16 rfl ?_
    refine x_iconst (v := 0) dX9_chance_17 (by decide) ?_
    refine x_bipush (v := 10) dX9_chance_18 (by decide) ?_
    refine s_callS dX9_chance_20 (k_in σ _ _ _) rfl w_X9_in lmX9_51 st_X9_in rfl (Nat.le_of_ble_eq_true rfl) rfl (by decide) (fun v_20 σ_20 h_20 => ?_)
    obtain ⟨rfl, z_20⟩ := h_20
    have z_20 := z_20.symm
    subst z_20
    refine x_if_eq (tgt := 35) dX9_chance_23 (by decide) (fun c_23 => (absurd c_23 (by rw [r1]; decide))) (fun c_23 => ?_)
    refine x_iload_n dX9_chance_26 rfl ?_
    refine x_iconst (v := 0) dX9_chance_27 (by decide) ?_
    refine x_iconst (v := 1) dX9_chance_28 (by decide) ?_
    refine s_callS dX9_chance_29 (k_in σ _ _ _) rfl w_X9_in lmX9_51 st_X9_in rfl (Nat.le_of_ble_eq_true rfl) rfl (by decide) (fun v_29 σ_29 h_29 => ?_)
    obtain ⟨rfl, z_29⟩ := h_29
    have z_29 := z_29.symm
    subst z_29
    refine x_if_ne (tgt := 38) dX9_chance_32 (by decide) (fun c_32 => ?_) (fun c_32 => (absurd c_32 (by rw [r2]; decide)))
    refine x_iconst (v := 0) dX9_chance_38 (by decide) ?_
    refine x_istore dX9_chance_39 (Nat.le_of_ble_eq_true rfl) rfl ?_
    refine x_iconst (v := 1) dX9_chance_41 (by decide) ?_
    refine x_istore dX9_chance_42 (Nat.le_of_ble_eq_true rfl) rfl ?_
    refine x_iconst (v := 0) dX9_chance_44 (by decide) ?_
    refine x_istore dX9_chance_45 (Nat.le_of_ble_eq_true rfl) rfl ?_
    exact loop1 n 0 (by omega)
