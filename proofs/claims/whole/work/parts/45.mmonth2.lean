/-! ===== RainBallotModel's calls, 6: month, the walk ===== -/

theorem kk_le {c kk : Nat} (h1 : c ≤ 4) (h2 : kk ≤ 4) : nI c - 1 ≤ nI kk - 1 ↔ c ≤ kk := by
  have : ∀ c, c < 5 → ∀ kk, kk < 5 → (nI c - 1 ≤ nI kk - 1 ↔ c ≤ kk) := by decide +kernel
  exact this c (by omega) kk (by omega)
theorem kk_facts {kk D : Nat} (h2 : kk ≤ 4) (hD : D ≤ 4) : rgF (-1) 3 (nI kk - 1) = true ∧ (nI kk - 1 = -1 ↔ kk = 0) ∧ (nI kk - 1 < nI D ↔ kk ≤ D) := by
  have : ∀ kk, kk < 5 → ∀ D, D < 5 → rgF (-1) 3 (nI kk - 1) = true ∧ (nI kk - 1 = -1 ↔ kk = 0) ∧ (nI kk - 1 < nI D ↔ kk ≤ D) := by decide +kernel
  exact this kk (by omega) D (by omega)
theorem kk_out {k : Int32} (h : ¬ inq 4 k) : rgF (-1) 3 k = false := by
  rcases inq4 h with q | q
  · exact rgF_lo q
  · refine rgF_hi ?_
    have h1 : ¬ k.toInt < (4 : Int32).toInt := fun z => q (Int32.lt_iff_toInt_lt.mpr z)
    have h2 : (4 : Int32).toInt = 4 := by decide
    have h3 : (3 : Int32).toInt = 3 := by decide
    refine Int32.lt_iff_toInt_lt.mpr ?_
    omega
set_option maxRecDepth 100000 in
theorem k_mmonth_o (σ : Sg) (w k : Int32) (h : rgF 1 4 w = false ∨ ¬ inq 4 k) : Cm 12 YX9_month [.ref 81, .int w, .int k] σ (fun v σ' => v = some (.int (-3)) ∧ σ' = σ) := by
  refine Cm_of (by decide +kernel) (Nat.le_of_ble_eq_true rfl) ?_
  have ok : ∀ {q : Prop}, ¬ bI (rgF 1 4 w) = 0 → ¬ bI (rgF (-1) 3 k) = 0 → q := fun h1 h2 => by
    rcases h with q | q
    · rw [q] at h1; exact absurd rfl h1
    · rw [kk_out q] at h2; exact absurd rfl h2
  refine x_iload_n dX9_month_0 rfl ?_
  refine x_iconst (v := 1) dX9_month_1 (by decide) ?_
  refine x_iconst (v := 4) dX9_month_2 (by decide) ?_
  refine s_callS dX9_month_3 (k_in σ _ _ _) rfl w_X9_in lmX9_51 st_X9_in rfl (Nat.le_of_ble_eq_true rfl) rfl (by decide) (fun v_3 σ_3 h_3 => ?_)
  obtain ⟨rfl, z_3⟩ := h_3
  have z_3 := z_3.symm
  subst z_3
  refine x_if_eq (tgt := 18) dX9_month_6 (by decide) (fun c_6 => ?_) (fun c_6 => ?_)
  · refine x_bipush (v := -3) dX9_month_18 (by decide) ?_
    exact s_iret dX9_month_20 rfl (⟨rfl, rfl⟩)
  · refine x_iload_n dX9_month_9 rfl ?_
    refine x_iconst (v := -1) dX9_month_10 (by decide) ?_
    refine x_iconst (v := 3) dX9_month_11 (by decide) ?_
    refine s_callS dX9_month_12 (k_in σ _ _ _) rfl w_X9_in lmX9_51 st_X9_in rfl (Nat.le_of_ble_eq_true rfl) rfl (by decide) (fun v_12 σ_12 h_12 => ?_)
    obtain ⟨rfl, z_12⟩ := h_12
    have z_12 := z_12.symm
    subst z_12
    refine x_if_ne (tgt := 21) dX9_month_15 (by decide) (fun c_15 => (ok c_6 c_15)) (fun c_15 => ?_)
    refine x_bipush (v := -3) dX9_month_18 (by decide) ?_
    exact s_iret dX9_month_20 rfl (⟨rfl, rfl⟩)
set_option maxRecDepth 100000 in
theorem k_mmonth_z (σ : Sg) {D kk : Nat} (hn : σ 83 0 = nI 0) (hD1 : 1 ≤ D) (hD4 : D ≤ 4) (hk : kk ≤ 4) : Cm 12 YX9_month [.ref 81, .int (nI D), .int (nI kk - 1)] σ (fun v σ' => v = some (.int (-1)) ∧ σ' = σ) := by
  refine Cm_of (by decide +kernel) (Nat.le_of_ble_eq_true rfl) ?_
  have r1 : rgF 1 4 (nI D) = true := rgF_i (a := 1) (b := 4) hD1 hD4 (by decide)
  have r2 := (kk_facts hk hD4).1
  refine x_iload_n dX9_month_0 rfl ?_
  refine x_iconst (v := 1) dX9_month_1 (by decide) ?_
  refine x_iconst (v := 4) dX9_month_2 (by decide) ?_
  refine s_callS dX9_month_3 (k_in σ _ _ _) rfl w_X9_in lmX9_51 st_X9_in rfl (Nat.le_of_ble_eq_true rfl) rfl (by decide) (fun v_3 σ_3 h_3 => ?_)
  obtain ⟨rfl, z_3⟩ := h_3
  have z_3 := z_3.symm
  subst z_3
  refine x_if_eq (tgt := 18) dX9_month_6 (by decide) (fun c_6 => (absurd c_6 (by rw [r1]; decide))) (fun c_6 => ?_)
  refine x_iload_n dX9_month_9 rfl ?_
  refine x_iconst (v := -1) dX9_month_10 (by decide) ?_
  refine x_iconst (v := 3) dX9_month_11 (by decide) ?_
  refine s_callS dX9_month_12 (k_in σ _ _ _) rfl w_X9_in lmX9_51 st_X9_in rfl (Nat.le_of_ble_eq_true rfl) rfl (by decide) (fun v_12 σ_12 h_12 => ?_)
  obtain ⟨rfl, z_12⟩ := h_12
  have z_12 := z_12.symm
  subst z_12
  refine x_if_ne (tgt := 21) dX9_month_15 (by decide) (fun c_15 => ?_) (fun c_15 => (absurd c_15 (by rw [r2]; decide)))
  refine x_aload_n dX9_month_21 rfl ?_
  refine s_getr (ci := 9) (k := 2) (N := 20) (C := RX9) (T := TX9) dX9_month_22 lfX9_13 inX9 rfl (by decide) (rfl) rfl ?_
  refine x_iconst (v := 0) dX9_month_25 (by decide) ?_
  refine s_iald dX9_month_26 (rfl) (j := 0) (hi := by decide) (hj := by omega) (hn := by decide) ?_
  refine x_if_ne (tgt := 32) dX9_month_27 (by decide) (fun c_27 => (absurd hn c_27)) (fun c_27 => ?_)
  refine x_iconst (v := -1) dX9_month_30 (by decide) ?_
  exact s_iret dX9_month_31 rfl (⟨rfl, rfl⟩)
def mmV (p : PL) (o : MO) (D kk : Nat) : Int32 := if kk = 0 then (fdF (gmF p D o 0) (p.1 ^ D) (-1, 0)).1 else if D < kk then -1 else dgF p.1 D (fdF (gmF p D o 0) (p.1 ^ D) (-1, 0)).2 (kk - 1)
theorem gm_lt {p : PL} {r : Nat} {o : MO} {b : Nat} : ∀ k, (fdF (gmF p r o b) k (-1, 0)).2 ≤ b + k := by
  intro k
  induction k with
  | zero => exact Nat.zero_le _
  | succ k ih =>
    have e : fdF (gmF p r o b) (k + 1) (-1, 0) = gmF p r o b k (fdF (gmF p r o b) k (-1, 0)) := rfl
    rw [e]
    unfold gmF at ih ⊢
    split
    · show b + k ≤ _; omega
    · exact Nat.le_trans ih (by omega)
set_option maxRecDepth 100000 in
set_option maxHeartbeats 2000000 in
theorem k_mmonth (σ : Sg) {n D kk : Nat} (hn : σ 83 0 = nI n) (hp : Wp (plM n σ 83)) (ho : Wm n (moS n σ)) (hn1 : 1 ≤ n) (hD1 : 1 ≤ D) (hD4 : D ≤ 4) (hkk : kk ≤ 4) : Cm 12 YX9_month [.ref 81, .int (nI D), .int (nI kk - 1)] σ (fun v σ' => v = some (.int (mmV (plM n σ 83) (moS n σ) D kk)) ∧ fM σ σ') := by
  refine Cm_of (by decide +kernel) (Nat.le_of_ble_eq_true rfl) ?_
  have hn8 : n ≤ 8 := hp.1
  have r1 : rgF 1 4 (nI D) = true := rgF_i (a := 1) (b := 4) hD1 hD4 (by decide)
  obtain ⟨r2, r3, r4⟩ := kk_facts hkk hD4
  have hpw : ∀ r, r ≤ 4 → 0 < n ^ r ∧ n ^ r ≤ 4096 := fun r hr => ⟨Nat.pow_pos hn1, Nat.le_trans (Nat.pow_le_pow_left hn8 r) (Nat.le_trans (Nat.pow_le_pow_right (n := 8) (by decide) hr) (by decide))⟩
  obtain ⟨hpD0, hpD⟩ := hpw D hD4
  have n0 : ¬ nI n = 0 := nI_ne0 (by omega) (by omega)
  have hF := gm_lt (p := plM n σ 83) (r := D) (o := moS n σ) (b := 0) (n ^ D)
  -- behind the rows
  have tail : ∀ (τ : Sg), fM σ τ → τ 83 0 = nI n → ∀ (c : Nat) (V8 : Value), c ≤ D → (kk ≤ D → kk ≤ c) → Ex (YX9_month, 12, xB0, none) 182 [.ref 81, .int (nI D), .int (nI kk - 1), .int (nI (n ^ D)), .int (fdF (gmF (plM n σ 83) D (moS n σ) 0) (n ^ D) (-1, 0)).1, .int (nI (fdF (gmF (plM n σ 83) D (moS n σ) 0) (n ^ D) (-1, 0)).2), .int (nI ((fdF (gmF (plM n σ 83) D (moS n σ) 0) (n ^ D) (-1, 0)).2 / n ^ (D - c))), .int (nI c - 1), V8] [] (xMs τ) (xQ (fun v σ' => v = some (.int (mmV (plM n σ 83) (moS n σ) D kk)) ∧ fM σ σ')) := by
    intro τ hf hn'
    have eV : mmV (plM n σ 83) (moS n σ) D kk = if kk = 0 then (fdF (gmF (plM n σ 83) D (moS n σ) 0) (n ^ D) (-1, 0)).1 else if D < kk then -1 else dgF n D (fdF (gmF (plM n σ 83) D (moS n σ) 0) (n ^ D) (-1, 0)).2 (kk - 1) := rfl
    rw [eV]
    generalize fdF (gmF (plM n σ 83) D (moS n σ) 0) (n ^ D) (-1, 0) = F at hF
    intro c
    have hq : ∀ c, F.2 / n ^ (D - c) ≤ 4096 := fun c => Nat.le_trans (Nat.div_le_self _ _) (by omega)
    have fin : ∀ (c : Nat) (V8 : Value), c ≤ D → (kk ≤ D → kk = c) → Ex (YX9_month, 12, xB0, none) 205 [.ref 81, .int (nI D), .int (nI kk - 1), .int (nI (n ^ D)), .int F.1, .int (nI F.2), .int (nI (F.2 / n ^ (D - c))), .int (nI c - 1), V8] [] (xMs τ) (xQ (fun v σ' => v = some (.int (if kk = 0 then F.1 else if D < kk then -1 else dgF n D F.2 (kk - 1))) ∧ fM σ σ')) := by
      intro c V8 hc hk
      have ed : kk ≤ D → ¬ kk = 0 → nI (F.2 / n ^ (D - c)) - nI (F.2 / n ^ (D - c)) / nI n * nI n = dgF n D F.2 (kk - 1) := fun h1 h2 => by
        rw [nI_rem (by have := hq c; omega) (by omega)]
        unfold dgF
        rw [tr_i (by omega), show D - 1 - (kk - 1) = D - c by have := hk h1; omega]
      refine x_iload_n dX9_month_205 rfl ?_
      refine x_iconst (v := -1) dX9_month_206 (by decide) ?_
      refine x_icmp_ne (tgt := 215) dX9_month_207 (by decide) (fun c_207 => ?_) (fun c_207 => ?_)
      · refine x_iload_n dX9_month_215 rfl ?_
        refine x_iload_n dX9_month_216 rfl ?_
        refine x_icmp_lt (tgt := 224) dX9_month_217 (by decide) (fun c_217 => ?_) (fun c_217 => ?_)
        · refine x_iload dX9_month_224 rfl ?_
          refine x_aload_n dX9_month_226 rfl ?_
          refine s_getr (ci := 9) (k := 2) (N := 20) (C := RX9) (T := TX9) dX9_month_227 lfX9_13 inX9 rfl (by decide) (rfl) rfl ?_
          refine x_iconst (v := 0) dX9_month_230 (by decide) ?_
          refine s_iald dX9_month_231 (rfl) (j := 0) (hi := by decide) (hj := by omega) (hn := by decide) ?_
          refine x_irem dX9_month_232 ((by rw [hn']; exact n0)) ?_
          exact s_iret dX9_month_233 rfl (by first
            | exact ⟨by rw [if_pos (r3.mp c_207)], hf⟩
            | exact ⟨by rw [if_neg (fun z => c_207 (r3.mpr z)), if_pos (by rcases Nat.lt_or_ge D kk with z | z; exact z; exact absurd (r4.mpr z) (by first | exact c_217 | exact Int32.not_lt.mpr c_217))], hf⟩
            | exact ⟨by rw [hn', if_neg (fun z => c_207 (r3.mpr z)), if_neg (fun z => absurd (r4.mp c_217) (by omega)), ed (r4.mp c_217) (fun z => c_207 (r3.mpr z))], hf⟩)
        · refine x_iconst (v := -1) dX9_month_220 (by decide) ?_
          refine x_goto (tgt := 233) dX9_month_221 (by decide) ?_
          exact s_iret dX9_month_233 rfl (by first
            | exact ⟨by rw [if_pos (r3.mp c_207)], hf⟩
            | exact ⟨by rw [if_neg (fun z => c_207 (r3.mpr z)), if_pos (by rcases Nat.lt_or_ge D kk with z | z; exact z; exact absurd (r4.mpr z) (by first | exact c_217 | exact Int32.not_lt.mpr c_217))], hf⟩
            | exact ⟨by rw [hn', if_neg (fun z => c_207 (r3.mpr z)), if_neg (fun z => absurd (r4.mp c_217) (by omega)), ed (r4.mp c_217) (fun z => c_207 (r3.mpr z))], hf⟩)
      · refine x_iload dX9_month_210 rfl ?_
        refine x_goto (tgt := 233) dX9_month_212 (by decide) ?_
        exact s_iret dX9_month_233 rfl (by first
          | exact ⟨by rw [if_pos (r3.mp c_207)], hf⟩
          | exact ⟨by rw [if_neg (fun z => c_207 (r3.mpr z)), if_pos (by rcases Nat.lt_or_ge D kk with z | z; exact z; exact absurd (r4.mpr z) (by first | exact c_217 | exact Int32.not_lt.mpr c_217))], hf⟩
          | exact ⟨by rw [hn', if_neg (fun z => c_207 (r3.mpr z)), if_neg (fun z => absurd (r4.mp c_217) (by omega)), ed (r4.mp c_217) (fun z => c_207 (r3.mpr z))], hf⟩)
    induction c with
    | zero =>
      intro V8 hc hk
      refine x_iload dX9_month_182 rfl ?_
      refine x_iload_n dX9_month_184 rfl ?_
      refine x_icmp_le (tgt := 205) dX9_month_185 (by decide) (fun c_185 => ?_) (fun c_185 => (absurd ((kk_le (c := 0) (by omega) hkk).mpr (Nat.zero_le _)) (by first | exact c_185 | exact Int32.not_le.mpr c_185)))
      exact fin 0 V8 hc (fun z => by have := hk z; omega)
    | succ c ih =>
      intro V8 hc hk
      have ediv : nI (F.2 / n ^ (D - (c + 1))) / nI n = nI (F.2 / n ^ (D - c)) := by
        rw [nI_div (by have := hq (c + 1); omega) (by omega), Nat.div_div_eq_div_mul, ← Nat.pow_succ, show (D - (c + 1)).succ = D - c by omega]
      have edec : nI (c + 1) - 1 + Int32.ofInt (-1) = nI c - 1 := by rw [show nI (c + 1) - 1 = nI c from nI_pred c, show Int32.ofInt (-1) = -1 from by decide, Int32.sub_eq_add_neg]
      have hle : ¬ nI (c + 1) - 1 ≤ nI kk - 1 → kk < c + 1 := fun z => by
        rcases Nat.lt_or_ge kk (c + 1) with q | q
        · exact q
        · exact absurd ((kk_le (by omega) hkk).mpr q) z
      refine x_iload dX9_month_182 rfl ?_
      refine x_iload_n dX9_month_184 rfl ?_
      refine x_icmp_le (tgt := 205) dX9_month_185 (by decide) (fun c_185 => ?_) (fun c_185 => ?_)
      · exact fin (c + 1) V8 hc (fun z => by have := hk z; have := (kk_le (c := c + 1) (by omega) hkk).mp c_185; omega)
      · refine x_iload dX9_month_188 rfl ?_
        refine x_aload_n dX9_month_190 rfl ?_
        refine s_getr (ci := 9) (k := 2) (N := 20) (C := RX9) (T := TX9) dX9_month_191 lfX9_13 inX9 rfl (by decide) (rfl) rfl ?_
        refine x_iconst (v := 0) dX9_month_194 (by decide) ?_
        refine s_iald dX9_month_195 (rfl) (j := 0) (hi := by decide) (hj := by omega) (hn := by decide) ?_
        refine x_idiv dX9_month_196 ((by rw [hn']; exact n0)) ?_
        rw [hn', ediv]
        refine x_istore dX9_month_197 (Nat.le_of_ble_eq_true rfl) rfl ?_
        refine x_iinc dX9_month_199 rfl (Nat.le_of_ble_eq_true rfl) rfl ?_
        refine x_goto (tgt := 182) dX9_month_202 (by decide) ?_
        rw [edec]
        exact ih V8 (by omega) (fun z => by have := hle (by first | exact c_185 | exact Int32.not_le.mpr c_185); omega)
  have loop2 : ∀ (j x : Nat) (τ : Sg) (V7 V8 : Value), x + j = n ^ D → ((∀ i, i < 18 → τ 85 i = σ 85 i) ∧ (∀ i, i < 18 → τ 91 i = σ 85 i) ∧ ∀ c, c ≠ 85 → c ≠ 90 → c ≠ 91 → τ c = σ c) → Ex (YX9_month, 12, xB0, none) 71 [.ref 81, .int (nI D), .int (nI kk - 1), .int (nI (n ^ D)), .int (fdF (gmF (plM n σ 83) D (moS n σ) 0) x (-1, 0)).1, .int (nI (fdF (gmF (plM n σ 83) D (moS n σ) 0) x (-1, 0)).2), .int (nI x), V7, V8] [] (xMs τ) (xQ (fun v σ' => v = some (.int (mmV (plM n σ 83) (moS n σ) D kk)) ∧ fM σ σ')) := by
    intro j
    induction j with
    | zero =>
      intro x τ V7 V8 hx hI
      obtain rfl : x = n ^ D := by omega
      have hn' : τ 83 0 = nI n := by rw [hI.2.2 83 (by decide) (by decide) (by decide)]; exact hn
      refine x_iload dX9_month_71 rfl ?_
      refine x_iload_n dX9_month_73 rfl ?_
      refine x_icmp_ge (tgt := 173) dX9_month_74 (by decide) (fun c_74 => ?_) (fun c_74 => (absurd (Int32.le_refl _) c_74))
      refine x_iload dX9_month_173 rfl ?_
      refine x_istore dX9_month_175 (Nat.le_of_ble_eq_true rfl) rfl ?_
      refine x_iload_n dX9_month_177 rfl ?_
      refine x_iconst (v := 1) dX9_month_178 (by decide) ?_
      refine x_isub dX9_month_179 ?_
      refine x_istore dX9_month_180 (Nat.le_of_ble_eq_true rfl) rfl ?_
      have h := tail τ ⟨hI.1, fun i => by rw [hI.2.2 81 (by decide) (by decide) (by decide)], fun c _ b d e => hI.2.2 c b d e⟩ hn' D V8 (Nat.le_refl _) (fun z => z)
      rw [Nat.sub_self, Nat.pow_zero, Nat.div_one] at h
      exact h
    | succ j ih =>
      intro x τ V7 V8 hx hI
      have hxn : x < n ^ D := by omega
      have step : ∀ (y z : Int32) (τ2 : Sg) (V7 V8 : Value), (y = (fdF (gmF (plM n σ 83) D (moS n σ) 0) (x + 1) (-1, 0)).1 ∧ z = nI (fdF (gmF (plM n σ 83) D (moS n σ) 0) (x + 1) (-1, 0)).2) → ((∀ i, i < 18 → τ2 85 i = σ 85 i) ∧ (∀ i, i < 18 → τ2 91 i = σ 85 i) ∧ ∀ c, c ≠ 85 → c ≠ 90 → c ≠ 91 → τ2 c = σ c) → Ex (YX9_month, 12, xB0, none) 71 [.ref 81, .int (nI D), .int (nI kk - 1), .int (nI (n ^ D)), .int y, .int z, .int (nI (x + 1)), V7, V8] [] (xMs τ2) (xQ (fun v σ' => v = some (.int (mmV (plM n σ 83) (moS n σ) D kk)) ∧ fM σ σ')) := fun y z τ2 V7 V8 hy hf => by
        rw [hy.1, hy.2]
        exact ih (x + 1) τ2 _ _ (by omega) hf
      have eg : fdF (gmF (plM n σ 83) D (moS n σ) 0) (x + 1) (-1, 0) = gmF (plM n σ 83) D (moS n σ) 0 x (fdF (gmF (plM n σ 83) D (moS n σ) 0) x (-1, 0)) := rfl
      rw [eg] at step
      generalize fdF (gmF (plM n σ 83) D (moS n σ) 0) x (-1, 0) = F at step
      have inner : ∀ (i d : Nat) (τ : Sg), d + i = D → ((∀ i, i < 18 → τ 91 i = σ 85 i) ∧ (∀ c, c ≠ 85 → c ≠ 90 → c ≠ 91 → τ c = σ c) ∧ Wm n (moS n τ) ∧ evF (plM n σ 83) (D - d) (moS n τ) x = evF (plM n σ 83) D (moS n σ) x) → Ex (YX9_month, 12, xB0, none) 83 [.ref 81, .int (nI D), .int (nI kk - 1), .int (nI (n ^ D)), .int F.1, .int (nI F.2), .int (nI x), .int (nI (n ^ (D - d))), .int (nI d)] [] (xMs τ) (xQ (fun v σ' => v = some (.int (mmV (plM n σ 83) (moS n σ) D kk)) ∧ fM σ σ')) := by
        intro i
        induction i with
        | zero =>
          intro d τ hd hJ
          obtain rfl : d = D := by omega
          have hn' : τ 83 0 = nI n := by rw [hJ.2.1 83 (by decide) (by decide) (by decide)]; exact hn
          have ep : plM n τ 83 = plM n σ 83 := plM_fr (hJ.2.1 83 (by decide) (by decide) (by decide))
          have em : moS n τ = evF (plM n σ 83) d (moS n σ) x := by
            have h := hJ.2.2.2
            rw [Nat.sub_self] at h
            exact h
          have ec : onF (stF (saP (plM n τ 83) (moS n τ)) n) 8 = ctF (plM n σ 83) (evF (plM n σ 83) d (moS n σ) x) := by rw [ep, em]; rfl
          have g1 : F.1 < nI (ctF (plM n σ 83) (evF (plM n σ 83) d (moS n σ) x)) → gmF (plM n σ 83) d (moS n σ) 0 x F = (nI (ctF (plM n σ 83) (evF (plM n σ 83) d (moS n σ) x)), x) := fun z => by unfold gmF; rw [if_pos z, Nat.zero_add]
          have g2 : ¬ F.1 < nI (ctF (plM n σ 83) (evF (plM n σ 83) d (moS n σ) x)) → gmF (plM n σ 83) d (moS n σ) 0 x F = F := fun z => by unfold gmF; rw [if_neg z]
          refine x_iload dX9_month_83 rfl ?_
          refine x_iload_n dX9_month_85 rfl ?_
          refine x_icmp_ge (tgt := 122) dX9_month_86 (by decide) (fun c_86 => ?_) (fun c_86 => (absurd (Int32.le_refl _) c_86))
          refine x_aload_n dX9_month_122 rfl ?_
          refine s_callV dX9_month_123 (k_sated τ hn' hn8) rfl w_X9_sated lmX9_157 im_X9_sated se_X9_sated rfl (rfl) rfl (Nat.le_of_ble_eq_true rfl) rfl (by decide) (fun v_123 σ_123 h_123 => ?_)
          obtain ⟨rfl, z_123⟩ := h_123
          have z_123 := z_123.symm
          subst z_123
          refine s_callS dX9_month_126 (k_ones τ (stF_256 hn8)) rfl w_X9_ones lmX9_154 st_X9_ones rfl (Nat.le_of_ble_eq_true rfl) rfl (by decide) (fun v_126 σ_126 h_126 => ?_)
          obtain ⟨rfl, z⟩ := h_126
          have z := z.symm
          subst z
          rw [ec]
          refine x_istore dX9_month_129 (Nat.le_of_ble_eq_true rfl) rfl ?_
          refine x_iload dX9_month_131 rfl ?_
          refine x_iload dX9_month_133 rfl ?_
          refine x_icmp_le (tgt := 143) dX9_month_135 (by decide) (fun c_135 => ?_) (fun c_135 => ?_)
          · refine x_iload dX9_month_143 rfl ?_
            refine x_istore dX9_month_145 (Nat.le_of_ble_eq_true rfl) rfl ?_
            refine x_iload dX9_month_147 rfl ?_
            refine x_iload dX9_month_149 rfl ?_
            refine x_icmp_le (tgt := 159) dX9_month_151 (by decide) (fun c_151 => ?_) (fun c_151 => ?_)
            · refine x_iload dX9_month_159 rfl ?_
              refine x_istore dX9_month_161 (Nat.le_of_ble_eq_true rfl) rfl ?_
              refine x_aload_n dX9_month_163 rfl ?_
              refine s_callV dX9_month_164 (k_lets _) rfl w_X9_lets lmX9_151 im_X9_lets se_X9_lets rfl (rfl) rfl (Nat.le_of_ble_eq_true rfl) rfl (by decide) (fun v_164 σ_164 h_164 => ?_)
              obtain ⟨rfl, W2, hW2, rfl⟩ := h_164
              have hf2 : (∀ i, i < 18 → (sw τ 85 W2) 85 i = σ 85 i) ∧ (∀ i, i < 18 → (sw τ 85 W2) 91 i = σ 85 i) ∧ ∀ c, c ≠ 85 → c ≠ 90 → c ≠ 91 → (sw τ 85 W2) c = σ c := ⟨fun i hi => by rw [sw_s, hW2 i hi]; exact hJ.1 i hi, fun i hi => by rw [sw_n _ _ (by decide)]; exact hJ.1 i hi, fun c a b d => by rw [sw_n _ _ a]; exact hJ.2.1 c a b d⟩
              refine s_iinc dX9_month_167 rfl (Nat.le_of_ble_eq_true rfl) rfl ?_
              refine x_goto (tgt := 71) dX9_month_170 (by decide) ?_
              first
                | exact absurd c_151 c_135
                | exact absurd c_135 c_151
                | (rw [g1 (Int32.not_le.mp c_135)] at step; exact step _ _ _ _ _ ⟨rfl, rfl⟩ hf2)
                | (rw [g2 (Int32.not_lt.mpr c_135)] at step; exact step _ _ _ _ _ ⟨rfl, rfl⟩ hf2)
            · refine x_iload dX9_month_154 rfl ?_
              refine x_goto (tgt := 161) dX9_month_156 (by decide) ?_
              refine x_istore dX9_month_161 (Nat.le_of_ble_eq_true rfl) rfl ?_
              refine x_aload_n dX9_month_163 rfl ?_
              refine s_callV dX9_month_164 (k_lets _) rfl w_X9_lets lmX9_151 im_X9_lets se_X9_lets rfl (rfl) rfl (Nat.le_of_ble_eq_true rfl) rfl (by decide) (fun v_164 σ_164 h_164 => ?_)
              obtain ⟨rfl, W2, hW2, rfl⟩ := h_164
              have hf2 : (∀ i, i < 18 → (sw τ 85 W2) 85 i = σ 85 i) ∧ (∀ i, i < 18 → (sw τ 85 W2) 91 i = σ 85 i) ∧ ∀ c, c ≠ 85 → c ≠ 90 → c ≠ 91 → (sw τ 85 W2) c = σ c := ⟨fun i hi => by rw [sw_s, hW2 i hi]; exact hJ.1 i hi, fun i hi => by rw [sw_n _ _ (by decide)]; exact hJ.1 i hi, fun c a b d => by rw [sw_n _ _ a]; exact hJ.2.1 c a b d⟩
              refine s_iinc dX9_month_167 rfl (Nat.le_of_ble_eq_true rfl) rfl ?_
              refine x_goto (tgt := 71) dX9_month_170 (by decide) ?_
              first
                | exact absurd c_151 c_135
                | exact absurd c_135 c_151
                | (rw [g1 (Int32.not_le.mp c_135)] at step; exact step _ _ _ _ _ ⟨rfl, rfl⟩ hf2)
                | (rw [g2 (Int32.not_lt.mpr c_135)] at step; exact step _ _ _ _ _ ⟨rfl, rfl⟩ hf2)
          · refine x_iload dX9_month_138 rfl ?_
            refine x_goto (tgt := 145) dX9_month_140 (by decide) ?_
            refine x_istore dX9_month_145 (Nat.le_of_ble_eq_true rfl) rfl ?_
            refine x_iload dX9_month_147 rfl ?_
            refine x_iload dX9_month_149 rfl ?_
            refine x_icmp_le (tgt := 159) dX9_month_151 (by decide) (fun c_151 => ?_) (fun c_151 => ?_)
            · refine x_iload dX9_month_159 rfl ?_
              refine x_istore dX9_month_161 (Nat.le_of_ble_eq_true rfl) rfl ?_
              refine x_aload_n dX9_month_163 rfl ?_
              refine s_callV dX9_month_164 (k_lets _) rfl w_X9_lets lmX9_151 im_X9_lets se_X9_lets rfl (rfl) rfl (Nat.le_of_ble_eq_true rfl) rfl (by decide) (fun v_164 σ_164 h_164 => ?_)
              obtain ⟨rfl, W2, hW2, rfl⟩ := h_164
              have hf2 : (∀ i, i < 18 → (sw τ 85 W2) 85 i = σ 85 i) ∧ (∀ i, i < 18 → (sw τ 85 W2) 91 i = σ 85 i) ∧ ∀ c, c ≠ 85 → c ≠ 90 → c ≠ 91 → (sw τ 85 W2) c = σ c := ⟨fun i hi => by rw [sw_s, hW2 i hi]; exact hJ.1 i hi, fun i hi => by rw [sw_n _ _ (by decide)]; exact hJ.1 i hi, fun c a b d => by rw [sw_n _ _ a]; exact hJ.2.1 c a b d⟩
              refine s_iinc dX9_month_167 rfl (Nat.le_of_ble_eq_true rfl) rfl ?_
              refine x_goto (tgt := 71) dX9_month_170 (by decide) ?_
              first
                | exact absurd c_151 c_135
                | exact absurd c_135 c_151
                | (rw [g1 (Int32.not_le.mp c_135)] at step; exact step _ _ _ _ _ ⟨rfl, rfl⟩ hf2)
                | (rw [g2 (Int32.not_lt.mpr c_135)] at step; exact step _ _ _ _ _ ⟨rfl, rfl⟩ hf2)
            · refine x_iload dX9_month_154 rfl ?_
              refine x_goto (tgt := 161) dX9_month_156 (by decide) ?_
              refine x_istore dX9_month_161 (Nat.le_of_ble_eq_true rfl) rfl ?_
              refine x_aload_n dX9_month_163 rfl ?_
              refine s_callV dX9_month_164 (k_lets _) rfl w_X9_lets lmX9_151 im_X9_lets se_X9_lets rfl (rfl) rfl (Nat.le_of_ble_eq_true rfl) rfl (by decide) (fun v_164 σ_164 h_164 => ?_)
              obtain ⟨rfl, W2, hW2, rfl⟩ := h_164
              have hf2 : (∀ i, i < 18 → (sw τ 85 W2) 85 i = σ 85 i) ∧ (∀ i, i < 18 → (sw τ 85 W2) 91 i = σ 85 i) ∧ ∀ c, c ≠ 85 → c ≠ 90 → c ≠ 91 → (sw τ 85 W2) c = σ c := ⟨fun i hi => by rw [sw_s, hW2 i hi]; exact hJ.1 i hi, fun i hi => by rw [sw_n _ _ (by decide)]; exact hJ.1 i hi, fun c a b d => by rw [sw_n _ _ a]; exact hJ.2.1 c a b d⟩
              refine s_iinc dX9_month_167 rfl (Nat.le_of_ble_eq_true rfl) rfl ?_
              refine x_goto (tgt := 71) dX9_month_170 (by decide) ?_
              first
                | exact absurd c_151 c_135
                | exact absurd c_135 c_151
                | (rw [g1 (Int32.not_le.mp c_135)] at step; exact step _ _ _ _ _ ⟨rfl, rfl⟩ hf2)
                | (rw [g2 (Int32.not_lt.mpr c_135)] at step; exact step _ _ _ _ _ ⟨rfl, rfl⟩ hf2)
        | succ i ihi =>
          intro d τ hd hJ
          have hdD : d < D := by omega
          have hn' : τ 83 0 = nI n := by rw [hJ.2.1 83 (by decide) (by decide) (by decide)]; exact hn
          have ep : plM n τ 83 = plM n σ 83 := plM_fr (hJ.2.1 83 (by decide) (by decide) (by decide))
          obtain ⟨r, hr⟩ : ∃ r, D - d = r + 1 := ⟨D - d - 1, by omega⟩
          have hr2 : D - (d + 1) = r := by omega
          obtain ⟨q0, q1⟩ := hpw r (by omega)
          obtain ⟨_, q2⟩ := hpw (D - d) (by omega)
          have e1 : nI (n ^ (D - d)) / nI n = nI (n ^ r) := by rw [nI_div (by omega) (by omega), hr, Nat.pow_succ, Nat.mul_div_cancel _ hn1]
          have e2 : nI x / nI (n ^ r) = nI (x / n ^ r) := nI_div (by omega) (by omega)
          have e3 : nI (x / n ^ r) - nI (x / n ^ r) / nI n * nI n = nI (x / n ^ r % n) := nI_rem (by have := Nat.div_le_self x (n ^ r); omega) (by omega)
          have hev := hJ.2.2.2
          rw [hr] at hev
          have hsq : inq n (nI (x / n ^ r % n)) := Or.inr ⟨_, Nat.mod_lt _ hn1, rfl⟩
          refine x_iload dX9_month_83 rfl ?_
          refine x_iload_n dX9_month_85 rfl ?_
          refine x_icmp_ge (tgt := 122) dX9_month_86 (by decide) (fun c_86 => (absurd c_86 (nI_ge hdD (by omega)))) (fun c_86 => ?_)
          refine x_iload dX9_month_89 rfl ?_
          refine x_aload_n dX9_month_91 rfl ?_
          refine s_getr (ci := 9) (k := 2) (N := 20) (C := RX9) (T := TX9) dX9_month_92 lfX9_13 inX9 rfl (by decide) (rfl) rfl ?_
          refine x_iconst (v := 0) dX9_month_95 (by decide) ?_
          refine s_iald dX9_month_96 (rfl) (j := 0) (hi := by decide) (hj := by omega) (hn := by decide) ?_
          refine x_idiv dX9_month_97 ((by rw [hn']; exact n0)) ?_
          rw [hn', e1]
          refine x_istore dX9_month_98 (Nat.le_of_ble_eq_true rfl) rfl ?_
          refine x_aload_n dX9_month_100 rfl ?_
          refine x_iload dX9_month_101 rfl ?_
          refine x_iload dX9_month_103 rfl ?_
          refine x_idiv dX9_month_105 (nI_ne0 q0 (by omega)) ?_
          rw [e2]
          refine x_aload_n dX9_month_106 rfl ?_
          refine s_getr (ci := 9) (k := 2) (N := 20) (C := RX9) (T := TX9) dX9_month_107 lfX9_13 inX9 rfl (by decide) (rfl) rfl ?_
          refine x_iconst (v := 0) dX9_month_110 (by decide) ?_
          refine s_iald dX9_month_111 (rfl) (j := 0) (hi := by decide) (hj := by omega) (hn := by decide) ?_
          refine x_irem dX9_month_112 ((by rw [hn']; exact n0)) ?_
          rw [hn', e3]
          refine s_callV dX9_month_113 (k_rains τ hn' (by rw [ep]; exact hp) hJ.2.2.1.1 hsq) rfl w_X9_rains lmX9_141 im_X9_rains se_X9_rains rfl (rfl) rfl (Nat.le_of_ble_eq_true rfl) rfl (by decide) (fun v_113 σ_113 h_113 => ?_)
          obtain ⟨rfl, rm, rf⟩ := h_113
          rw [ep] at rm
          refine s_iinc dX9_month_116 rfl (Nat.le_of_ble_eq_true rfl) rfl ?_
          refine x_goto (tgt := 83) dX9_month_119 (by decide) ?_
          rw [← hr2]
          refine ihi (d + 1) _ (by omega) ⟨fun i hi => by rw [rf 91 (by decide)]; exact hJ.1 i hi, fun c a b e => by rw [rf c a]; exact hJ.2.1 c a b e, ?_, ?_⟩
          · rw [rm]; exact ps_wk (p := plM n σ 83) hp hsq hJ.2.2.1
          · rw [rm, hr2, ← hev]; rfl
      refine x_iload dX9_month_71 rfl ?_
      refine x_iload_n dX9_month_73 rfl ?_
      refine x_icmp_ge (tgt := 173) dX9_month_74 (by decide) (fun c_74 => (absurd c_74 (nI_ge hxn (by omega)))) (fun c_74 => ?_)
      refine x_iload_n dX9_month_77 rfl ?_
      refine x_istore dX9_month_78 (Nat.le_of_ble_eq_true rfl) rfl ?_
      refine x_iconst (v := 0) dX9_month_80 (by decide) ?_
      refine x_istore dX9_month_81 (Nat.le_of_ble_eq_true rfl) rfl ?_
      have em : moS n τ = moS n σ := moS_fr hI.1 hn8
      exact inner D 0 τ (by omega) ⟨hI.2.1, hI.2.2, by rw [em]; exact ho, by rw [em]; rfl⟩
  have loop1 : ∀ (j k : Nat) (τ : Sg), k + j = D → ((∀ i, i < 18 → τ 85 i = σ 85 i) ∧ (∀ i, i < 18 → τ 91 i = σ 85 i) ∧ ∀ c, c ≠ 85 → c ≠ 90 → c ≠ 91 → τ c = σ c) → Ex (YX9_month, 12, xB0, none) 41 [.ref 81, .int (nI D), .int (nI kk - 1), .int (nI (n ^ k)), .int (nI k), .null, .null, .null, .null] [] (xMs τ) (xQ (fun v σ' => v = some (.int (mmV (plM n σ 83) (moS n σ) D kk)) ∧ fM σ σ')) := by
    intro j
    induction j with
    | zero =>
      intro k τ hk hI
      obtain rfl : k = D := by omega
      refine x_iload dX9_month_41 rfl ?_
      refine x_iload_n dX9_month_43 rfl ?_
      refine x_icmp_ge (tgt := 62) dX9_month_44 (by decide) (fun c_44 => ?_) (fun c_44 => (absurd (Int32.le_refl _) c_44))
      refine x_iconst (v := -1) dX9_month_62 (by decide) ?_
      refine x_istore dX9_month_63 (Nat.le_of_ble_eq_true rfl) rfl ?_
      refine x_iconst (v := 0) dX9_month_65 (by decide) ?_
      refine x_istore dX9_month_66 (Nat.le_of_ble_eq_true rfl) rfl ?_
      refine x_iconst (v := 0) dX9_month_68 (by decide) ?_
      refine x_istore dX9_month_69 (Nat.le_of_ble_eq_true rfl) rfl ?_
      exact loop2 (n ^ k) 0 τ _ _ (by omega) hI
    | succ j ih =>
      intro k τ hk hI
      have hkn : k < D := by omega
      have hn' : τ 83 0 = nI n := by rw [hI.2.2 83 (by decide) (by decide) (by decide)]; exact hn
      have e : nI (n ^ k) * nI n = nI (n ^ (k + 1)) := nI_mul (n ^ k) n
      refine x_iload dX9_month_41 rfl ?_
      refine x_iload_n dX9_month_43 rfl ?_
      refine x_icmp_ge (tgt := 62) dX9_month_44 (by decide) (fun c_44 => (absurd c_44 (nI_ge hkn (by omega)))) (fun c_44 => ?_)
      refine x_iload_n dX9_month_47 rfl ?_
      refine x_aload_n dX9_month_48 rfl ?_
      refine s_getr (ci := 9) (k := 2) (N := 20) (C := RX9) (T := TX9) dX9_month_49 lfX9_13 inX9 rfl (by decide) (rfl) rfl ?_
      refine x_iconst (v := 0) dX9_month_52 (by decide) ?_
      refine s_iald dX9_month_53 (rfl) (j := 0) (hi := by decide) (hj := by omega) (hn := by decide) ?_
      rw [hn']
      refine x_imul dX9_month_54 ?_
      rw [e]
      refine x_istore_n dX9_month_55 (Nat.le_of_ble_eq_true rfl) rfl ?_
      refine s_iinc dX9_month_56 rfl (Nat.le_of_ble_eq_true rfl) rfl ?_
      refine x_goto (tgt := 41) dX9_month_59 (by decide) ?_
      exact ih (k + 1) τ (by omega) hI
  refine x_iload_n dX9_month_0 rfl ?_
  refine x_iconst (v := 1) dX9_month_1 (by decide) ?_
  refine x_iconst (v := 4) dX9_month_2 (by decide) ?_
  refine s_callS dX9_month_3 (k_in σ _ _ _) rfl w_X9_in lmX9_51 st_X9_in rfl (Nat.le_of_ble_eq_true rfl) rfl (by decide) (fun v_3 σ_3 h_3 => ?_)
  obtain ⟨rfl, z_3⟩ := h_3
  have z_3 := z_3.symm
  subst z_3
  refine x_if_eq (tgt := 18) dX9_month_6 (by decide) (fun c_6 => (absurd c_6 (by rw [r1]; decide))) (fun c_6 => ?_)
  refine x_iload_n dX9_month_9 rfl ?_
  refine x_iconst (v := -1) dX9_month_10 (by decide) ?_
  refine x_iconst (v := 3) dX9_month_11 (by decide) ?_
  refine s_callS dX9_month_12 (k_in σ _ _ _) rfl w_X9_in lmX9_51 st_X9_in rfl (Nat.le_of_ble_eq_true rfl) rfl (by decide) (fun v_12 σ_12 h_12 => ?_)
  obtain ⟨rfl, z_12⟩ := h_12
  have z_12 := z_12.symm
  subst z_12
  refine x_if_ne (tgt := 21) dX9_month_15 (by decide) (fun c_15 => ?_) (fun c_15 => (absurd c_15 (by rw [r2]; decide)))
  refine x_aload_n dX9_month_21 rfl ?_
  refine s_getr (ci := 9) (k := 2) (N := 20) (C := RX9) (T := TX9) dX9_month_22 lfX9_13 inX9 rfl (by decide) (rfl) rfl ?_
  refine x_iconst (v := 0) dX9_month_25 (by decide) ?_
  refine s_iald dX9_month_26 (rfl) (j := 0) (hi := by decide) (hj := by omega) (hn := by decide) ?_
  refine x_if_ne (tgt := 32) dX9_month_27 (by decide) (fun c_27 => ?_) (fun c_27 => (absurd (hn.symm.trans c_27) n0))
  refine x_aload_n dX9_month_32 rfl ?_
  refine s_callV dX9_month_33 (k_holds σ) rfl w_X9_holds lmX9_145 im_X9_holds se_X9_holds rfl (rfl) rfl (Nat.le_of_ble_eq_true rfl) rfl (by decide) (fun v_33 σ_33 h_33 => ?_)
  obtain ⟨rfl, W, hW, rfl⟩ := h_33
  refine x_iconst (v := 1) dX9_month_36 (by decide) ?_
  refine x_istore_n dX9_month_37 (Nat.le_of_ble_eq_true rfl) rfl ?_
  refine x_iconst (v := 0) dX9_month_38 (by decide) ?_
  refine x_istore dX9_month_39 (Nat.le_of_ble_eq_true rfl) rfl ?_
  exact loop1 D 0 _ (by omega) ⟨fun i hi => by rw [sw_n _ _ (by decide)], fun i hi => by rw [sw_s]; exact hW i hi, fun c _ _ b => sw_n _ _ b⟩
