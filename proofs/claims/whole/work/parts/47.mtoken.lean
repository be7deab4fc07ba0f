/-! ===== RainBallotModel's text: tokens ===== -/

/-- the text stands in the model too -/
def TM (σ : Sg) (len : Nat) (c : Nat → Nat) : Prop := σ 81 1 = nI len ∧ len ≤ 160 ∧ ∀ i, i < len → σ 82 i = nI (c i) ∧ c i < 256
def ltF (len : Nat) (c : Nat → Nat) (i : Nat) : Int32 := if i < len then nI (c i) else -1
theorem ltF_i {len : Nat} {c : Nat → Nat} {i : Nat} (h : i < len) : ltF len c i = nI (c i) := if_pos h
theorem ltF_o {len : Nat} {c : Nat → Nat} {i : Nat} (h : ¬ i < len) : ltF len c i = -1 := if_neg h
set_option maxRecDepth 100000 in
theorem k_letterAt (σ : Sg) {len i : Nat} {c : Nat → Nat} (hT : TM σ len c) (hi : i ≤ 1000) : Cm 0 YX9_letterAt [.ref 81, .int (nI i)] σ (fun v σ' => v = some (.int (ltF len c i)) ∧ σ' = σ) := by
  refine Cm_of (by decide +kernel) (Nat.le_of_ble_eq_true rfl) ?_
  have hl := hT.2.1
  have a1 : nI len ≤ nI i → ¬ i < len := fun h z => absurd h (nI_ge z (by omega))
  have a2 : ¬ nI len ≤ nI i → i < len := fun h => by
    rcases Nat.lt_or_ge i len with z | z
    · exact z
    · exact absurd (nI_le z (by omega)) h
  refine x_iload_n dX9_letterAt_0 rfl ?_
  refine x_aload_n dX9_letterAt_1 rfl ?_
  refine s_geti (ci := 9) (k := 1) (N := 20) (C := RX9) (T := TX9) dX9_letterAt_2 lfX9_55 inX9 rfl (by decide) (rfl) rfl ?_
  rw [hT.1]
  refine x_icmp_ge (tgt := 17) dX9_letterAt_5 (by decide) (fun c_5 => ?_) (fun c_5 => ?_)
  · refine x_iconst (v := -1) dX9_letterAt_17 (by decide) ?_
    exact s_iret dX9_letterAt_18 rfl (by first
      | exact ⟨by rw [ltF_i hil, (hT.2.2 i hil).1], rfl⟩
      | exact ⟨by rw [ltF_o (a1 c_5)], rfl⟩)
  · refine x_aload_n dX9_letterAt_8 rfl ?_
    refine s_getr (ci := 9) (k := 0) (N := 20) (C := RX9) (T := TX9) dX9_letterAt_9 lfX9_7 inX9 rfl (by decide) (rfl) rfl ?_
    refine x_iload_n dX9_letterAt_12 rfl ?_
    have hil := a2 (by first | exact c_5 | exact Int32.not_le.mpr c_5)
    refine s_iald dX9_letterAt_13 (rfl) (hi := rfl) (hj := by omega) (hn := by decide) ?_
    refine x_goto (tgt := 18) dX9_letterAt_14 (by decide) ?_
    exact s_iret dX9_letterAt_18 rfl (by first
      | exact ⟨by rw [ltF_i hil, (hT.2.2 i hil).1], rfl⟩
      | exact ⟨by rw [ltF_o (a1 c_5)], rfl⟩)
set_option maxRecDepth 100000 in
theorem k_isLetter (σ : Sg) (x : Int32) : Cm 1 YX9_isLetter [.int x] σ (fun v σ' => v = some (.int (bI (rgF 97 122 x))) ∧ σ' = σ) := by
  refine Cm_of (by decide +kernel) (Nat.le_of_ble_eq_true rfl) ?_
  refine x_iload_n dX9_isLetter_0 rfl ?_
  refine x_bipush (v := 97) dX9_isLetter_1 (by decide) ?_
  refine x_bipush (v := 122) dX9_isLetter_3 (by decide) ?_
  refine s_callS dX9_isLetter_5 (k_in σ _ _ _) rfl w_X9_in lmX9_51 st_X9_in rfl (Nat.le_of_ble_eq_true rfl) rfl (by decide) (fun v_5 σ_5 h_5 => ?_)
  obtain ⟨rfl, z_5⟩ := h_5
  have z_5 := z_5.symm
  subst z_5
  exact s_zret dX9_isLetter_8 rfl (by first | exact Or.inl rfl | exact Or.inr rfl | assumption | exact bI_01 _) (⟨rfl, rfl⟩)
set_option maxRecDepth 100000 in
theorem k_isDigit (σ : Sg) (x : Int32) : Cm 1 YX9_isDigit [.int x] σ (fun v σ' => v = some (.int (bI (rgF 48 57 x))) ∧ σ' = σ) := by
  refine Cm_of (by decide +kernel) (Nat.le_of_ble_eq_true rfl) ?_
  refine x_iload_n dX9_isDigit_0 rfl ?_
  refine x_bipush (v := 48) dX9_isDigit_1 (by decide) ?_
  refine x_bipush (v := 57) dX9_isDigit_3 (by decide) ?_
  refine s_callS dX9_isDigit_5 (k_in σ _ _ _) rfl w_X9_in lmX9_51 st_X9_in rfl (Nat.le_of_ble_eq_true rfl) rfl (by decide) (fun v_5 σ_5 h_5 => ?_)
  obtain ⟨rfl, z_5⟩ := h_5
  have z_5 := z_5.symm
  subst z_5
  exact s_zret dX9_isDigit_8 rfl (by first | exact Or.inl rfl | exact Or.inr rfl | assumption | exact bI_01 _) (⟨rfl, rfl⟩)
theorem rg_nat {a b x : Nat} (hx : x < 256) (ha : a < 256) (hb : b < 256) : rgF (nI a) (nI b) (nI x) = decide (a ≤ x ∧ x ≤ b) := by
  unfold rgF
  refine decide_eq_decide.mpr ?_
  rw [nI_ltI (by omega) (by omega), nI_ltI (by omega) (by omega)]
  omega
theorem lt_sm {len i : Nat} {c : Nat → Nat} (h : i < len → c i < 256) : rgF 97 122 (ltF len c i) = smB len c i := by
  unfold smB isS
  by_cases e : i < len
  · rw [ltF_i e, decide_eq_true e, Bool.true_and]; exact rg_nat (a := 97) (b := 122) (h e) (by decide) (by decide)
  · rw [ltF_o e, decide_eq_false e]; rfl
theorem lt_dg {len i : Nat} {c : Nat → Nat} (h : i < len → c i < 256) : rgF 48 57 (ltF len c i) = dgB len c i := by
  unfold dgB isD
  by_cases e : i < len
  · rw [ltF_i e, decide_eq_true e, Bool.true_and]; exact rg_nat (a := 48) (b := 57) (h e) (by decide) (by decide)
  · rw [ltF_o e, decide_eq_false e]; rfl
theorem lt_bl {len i : Nat} {c : Nat → Nat} (h : i < len → c i < 256) : ltF len c i = 32 ↔ blB len c i = true := by
  unfold blB
  by_cases e : i < len
  · rw [ltF_i e, decide_eq_true e, Bool.true_and, decide_eq_true_iff]; exact nI_eq (b := 32) (by have := h e; omega) (by decide)
  · rw [ltF_o e, decide_eq_false e]; exact ⟨fun z => absurd z (by decide), fun z => Bool.noConfusion z⟩
/-- what kind of token stands at s; its value behind k digits -/
def soF (len : Nat) (c : Nat → Nat) (s : Nat) : Int32 := if ¬ s < len then 0 else if smB len c s = true then 1 else if dgB len c s = true then 2 else 3
def muF (c : Nat → Nat) (s k : Nat) : Nat := if k ≤ 2 then nuF c s k else 100
def vaF (len : Nat) (c : Nat → Nat) (s : Nat) : Nat := if dgB len c s = true then muF c s (tkE len c s - s) else 0
theorem mu_s {c : Nat → Nat} {s k : Nat} (h : isD (c (s + k)) = true) : (if k < 2 then (10 : Int32) * nI (muF c s k) + nI (c (s + k)) - 48 else 100) = nI (muF c s (k + 1)) := by
  have hd := of_decide_eq_true h
  unfold muF
  by_cases e : k < 2
  · rw [if_pos e, if_pos (by omega), if_pos (by omega), show (10 : Int32) = nI 10 from rfl, nI_mul, nI_add, show (48 : Int32) = nI 48 from rfl, nI_sub (by omega)]
    congr 1
    show _ = 10 * nuF c s k + (c (s + k) - 48)
    omega
  · rw [if_neg e, if_neg (by omega)]
    rfl
/-- behind a token that begins at s: the fields -/
def TK (len : Nat) (c : Nat → Nat) (σ : Sg) (s : Nat) : Prop := TM σ len c ∧ s ≤ len ∧ σ 81 13 = nI s ∧ σ 81 11 = nI (tkE len c s) ∧ σ 81 12 = soF len c s ∧ σ 81 14 = nI (vaF len c s)
def FK (σ0 σ : Sg) : Prop := (∀ i, ¬ (11 ≤ i ∧ i ≤ 14) → σ 81 i = σ0 81 i) ∧ ∀ c, c ≠ 81 → σ c = σ0 c
theorem FK.tr {a b c : Sg} (h1 : FK a b) (h2 : FK b c) : FK a c := ⟨fun i hi => by rw [h2.1 i hi]; exact h1.1 i hi, fun d hd => by rw [h2.2 d hd]; exact h1.2 d hd⟩
theorem FK_sg {σ : Sg} {k : Nat} {x : Int32} (h : 11 ≤ k ∧ k ≤ 14) : FK σ (sg σ 81 k x) := ⟨fun i hi => sg_k _ _ _ (by omega), fun c hc => sg_n _ _ _ hc⟩
theorem TM_FK {σ0 σ : Sg} {len : Nat} {c : Nat → Nat} (h : TM σ0 len c) (f : FK σ0 σ) : TM σ len c := ⟨by rw [f.1 1 (by omega)]; exact h.1, h.2.1, fun i hi => by rw [f.2 82 (by decide)]; exact h.2.2 i hi⟩
theorem rn_step {p : Nat → Bool} {len : Nat} (hp : ∀ i, p i = true → i < len) {i : Nat} (h : p i = true) : rnF p len i = rnF p len (i + 1) := by
  have := hp i h
  rw [rnF_f hp len (len - i - 1 + 1) i (by omega) (by omega), rnF_y h]
  exact rnF_f hp _ _ _ (by omega) (by omega)
theorem sm_dg {len i : Nat} {c : Nat → Nat} (h : smB len c i = true) : dgB len c i = false := by
  cases q : dgB len c i with
  | false => rfl
  | true =>
    unfold smB isS at h
    unfold dgB isD at q
    simp at h q
    omega
/-- the letters of a word go by -/
def T3 (len : Nat) (c : Nat → Nat) (σ0 τ : Sg) (s i : Nat) (so : Int32) (v : Nat) : Prop := TM τ len c ∧ FK σ0 τ ∧ τ 81 13 = nI s ∧ τ 81 11 = nI i ∧ τ 81 12 = so ∧ τ 81 14 = nI v

set_option maxRecDepth 100000 in
theorem l_tok4 {len s i v : Nat} {c : Nat → Nat} {so : Int32} {σ0 τ : Sg} {V1 : Value} (hs : s ≤ len) (h : T3 len c σ0 τ s i so v) (hso : so = soF len c s) (hv : v = vaF len c s) (hi : tkE len c s = if so = 3 then i + 1 else i) : Ex (YX9_token, 2, xB0, none) 195 [.ref 81, V1] [] (xMs τ) (xQ (fun v σ' => v = none ∧ TK len c σ' s ∧ FK σ0 σ')) := by
  obtain ⟨hT, hF, h13, h11, h12, h14⟩ := h
  have go : ∀ x : Int32, x = nI (tkE len c s) → TK len c (sg τ 81 11 x) s ∧ FK σ0 (sg τ 81 11 x) := fun x hx => by
    have f2 : FK τ (sg τ 81 11 x) := FK_sg (by omega)
    exact ⟨⟨TM_FK hT f2, hs, by rw [sg_k _ _ _ (by decide)]; exact h13, by rw [sg_s, hx], by rw [sg_k _ _ _ (by decide), h12, hso], by rw [sg_k _ _ _ (by decide), h14, hv]⟩, hF.tr f2⟩
  refine x_aload_n dX9_token_195 rfl ?_
  refine x_dup dX9_token_196 rfl ?_
  refine s_geti (ci := 9) (k := 11) (N := 20) (C := RX9) (T := TX9) dX9_token_197 lfX9_58 inX9 rfl (by decide) (rfl) rfl ?_
  refine x_aload_n dX9_token_200 rfl ?_
  refine s_geti (ci := 9) (k := 12) (N := 20) (C := RX9) (T := TX9) dX9_token_201 lfX9_75 inX9 rfl (by decide) (rfl) rfl ?_
  refine x_iconst (v := 3) dX9_token_204 (by decide) ?_
  rw [h12]
  refine x_icmp_ne (tgt := 212) dX9_token_205 (by decide) (fun c_205 => ?_) (fun c_205 => ?_)
  · refine x_iconst (v := 0) dX9_token_212 (by decide) ?_
    rw [h11]
    refine x_iadd dX9_token_213 ?_
    refine s_puti (ci := 9) (k := 11) (N := 20) (C := RX9) (T := TX9) (ty0 := tyX9) dX9_token_214 lfX9_58 inX9 tyX9_ok nmX9 rfl (by decide) rfl rfl (rfl) rfl ?_
    refine s_ret dX9_token_217 rfl ?_
    refine ⟨rfl, go _ ?_⟩
    rw [hi]
    first
      | (rw [if_neg c_205]; exact nI_add i 0)
      | (rw [if_pos c_205]; exact nI_add i 1)
  · refine x_iconst (v := 1) dX9_token_208 (by decide) ?_
    refine x_goto (tgt := 213) dX9_token_209 (by decide) ?_
    rw [h11]
    refine x_iadd dX9_token_213 ?_
    refine s_puti (ci := 9) (k := 11) (N := 20) (C := RX9) (T := TX9) (ty0 := tyX9) dX9_token_214 lfX9_58 inX9 tyX9_ok nmX9 rfl (by decide) rfl rfl (rfl) rfl ?_
    refine s_ret dX9_token_217 rfl ?_
    refine ⟨rfl, go _ ?_⟩
    rw [hi]
    first
      | (rw [if_neg c_205]; exact nI_add i 0)
      | (rw [if_pos c_205]; exact nI_add i 1)
set_option maxRecDepth 100000 in
theorem l_tok3a {len s : Nat} {c : Nat → Nat} {σ0 : Sg} {V1 : Value} (hs : s ≤ len) (hsm : smB len c s = true) : ∀ (j i : Nat) (τ : Sg), i + j = len → T3 len c σ0 τ s i 1 0 → rnF (smB len c) len i = tkE len c s → Ex (YX9_token, 2, xB0, none) 83 [.ref 81, V1] [] (xMs τ) (xQ (fun v σ' => v = none ∧ TK len c σ' s ∧ FK σ0 σ')) := by
  have hsl := smB_lt s hsm
  have e0 : (0 : Nat) = vaF len c s := by unfold vaF; rw [sm_dg hsm]; rfl
  have e1 : (1 : Int32) = soF len c s := by unfold soF; rw [if_neg (fun z => z hsl), if_pos hsm]
  intro j
  induction j with
  | zero =>
    intro i τ hi h hr
    have hno : smB len c i = false := by
      cases q : smB len c i with
      | false => rfl
      | true => have := smB_lt i q; omega
    have hl := h.1.2.1
    have hlt := lt_sm (len := len) (i := i) (c := c) (fun z => (h.1.2.2 i z).2)
    rw [hno] at hlt
    refine x_aload_n dX9_token_83 rfl ?_
    refine s_geti (ci := 9) (k := 12) (N := 20) (C := RX9) (T := TX9) dX9_token_84 lfX9_75 inX9 rfl (by decide) (rfl) rfl ?_
    refine x_iconst (v := 1) dX9_token_87 (by decide) ?_
    rw [h.2.2.2.2.1]
    refine x_icmp_ne (tgt := 118) dX9_token_88 (by decide) (fun c_88 => (absurd rfl c_88)) (fun c_88 => ?_)
    refine x_aload_n dX9_token_91 rfl ?_
    refine x_aload_n dX9_token_92 rfl ?_
    refine s_geti (ci := 9) (k := 11) (N := 20) (C := RX9) (T := TX9) dX9_token_93 lfX9_58 inX9 rfl (by decide) (rfl) rfl ?_
    rw [h.2.2.2.1]
    refine s_callV dX9_token_96 (k_letterAt τ h.1 (i := i) (by omega)) rfl w_X9_letterAt lmX9_61 im_X9_letterAt se_X9_letterAt rfl (rfl) rfl (Nat.le_of_ble_eq_true rfl) rfl (by decide) (fun v_96 σ_96 h_96 => ?_)
    obtain ⟨rfl, z_96⟩ := h_96
    have z_96 := z_96.symm
    subst z_96
    refine s_callS dX9_token_99 (k_isLetter τ _) rfl w_X9_isLetter lmX9_68 st_X9_isLetter rfl (Nat.le_of_ble_eq_true rfl) rfl (by decide) (fun v_99 σ_99 h_99 => ?_)
    obtain ⟨rfl, z_99⟩ := h_99
    have z_99 := z_99.symm
    subst z_99
    rw [hlt]
    refine x_if_eq (tgt := 118) dX9_token_102 (by decide) (fun c_102 => ?_) (fun c_102 => (absurd rfl c_102))
    refine x_aload_n dX9_token_118 rfl ?_
    refine s_geti (ci := 9) (k := 12) (N := 20) (C := RX9) (T := TX9) dX9_token_119 lfX9_75 inX9 rfl (by decide) (rfl) rfl ?_
    refine x_iconst (v := 2) dX9_token_122 (by decide) ?_
    rw [h.2.2.2.2.1]
    refine x_icmp_ne (tgt := 195) dX9_token_123 (by decide) (fun c_123 => ?_) (fun c_123 => (absurd c_123 (by decide)))
    exact l_tok4 hs h e1 e0 (by rw [if_neg (by decide), ← hr]; exact rnF_n (by rw [hno]; decide))
  | succ j ih =>
    intro i τ hi h hr
    have hl := h.1.2.1
    have hlt := lt_sm (len := len) (i := i) (c := c) (fun z => (h.1.2.2 i z).2)
    have f2 : ∀ x, FK τ (sg τ 81 11 x) := fun x => FK_sg (by omega)
    refine x_aload_n dX9_token_83 rfl ?_
    refine s_geti (ci := 9) (k := 12) (N := 20) (C := RX9) (T := TX9) dX9_token_84 lfX9_75 inX9 rfl (by decide) (rfl) rfl ?_
    refine x_iconst (v := 1) dX9_token_87 (by decide) ?_
    rw [h.2.2.2.2.1]
    refine x_icmp_ne (tgt := 118) dX9_token_88 (by decide) (fun c_88 => (absurd rfl c_88)) (fun c_88 => ?_)
    refine x_aload_n dX9_token_91 rfl ?_
    refine x_aload_n dX9_token_92 rfl ?_
    refine s_geti (ci := 9) (k := 11) (N := 20) (C := RX9) (T := TX9) dX9_token_93 lfX9_58 inX9 rfl (by decide) (rfl) rfl ?_
    rw [h.2.2.2.1]
    refine s_callV dX9_token_96 (k_letterAt τ h.1 (i := i) (by omega)) rfl w_X9_letterAt lmX9_61 im_X9_letterAt se_X9_letterAt rfl (rfl) rfl (Nat.le_of_ble_eq_true rfl) rfl (by decide) (fun v_96 σ_96 h_96 => ?_)
    obtain ⟨rfl, z_96⟩ := h_96
    have z_96 := z_96.symm
    subst z_96
    refine s_callS dX9_token_99 (k_isLetter τ _) rfl w_X9_isLetter lmX9_68 st_X9_isLetter rfl (Nat.le_of_ble_eq_true rfl) rfl (by decide) (fun v_99 σ_99 h_99 => ?_)
    obtain ⟨rfl, z_99⟩ := h_99
    have z_99 := z_99.symm
    subst z_99
    rw [hlt]
    refine x_if_eq (tgt := 118) dX9_token_102 (by decide) (fun c_102 => ?_) (fun c_102 => ?_)
    · refine x_aload_n dX9_token_118 rfl ?_
      refine s_geti (ci := 9) (k := 12) (N := 20) (C := RX9) (T := TX9) dX9_token_119 lfX9_75 inX9 rfl (by decide) (rfl) rfl ?_
      refine x_iconst (v := 2) dX9_token_122 (by decide) ?_
      rw [h.2.2.2.2.1]
      refine x_icmp_ne (tgt := 195) dX9_token_123 (by decide) (fun c_123 => ?_) (fun c_123 => (absurd c_123 (by decide)))
      exact l_tok4 hs h e1 e0 (by rw [if_neg (by decide), ← hr]; exact rnF_n (by rw [bI_0.mp c_102]; decide))
    · refine x_aload_n dX9_token_105 rfl ?_
      refine x_dup dX9_token_106 rfl ?_
      refine s_geti (ci := 9) (k := 11) (N := 20) (C := RX9) (T := TX9) dX9_token_107 lfX9_58 inX9 rfl (by decide) (rfl) rfl ?_
      refine x_iconst (v := 1) dX9_token_110 (by decide) ?_
      rw [h.2.2.2.1]
      refine x_iadd dX9_token_111 ?_
      rw [nI_1]
      refine s_puti (ci := 9) (k := 11) (N := 20) (C := RX9) (T := TX9) (ty0 := tyX9) dX9_token_112 lfX9_58 inX9 tyX9_ok nmX9 rfl (by decide) rfl rfl (rfl) rfl ?_
      refine x_goto (tgt := 83) dX9_token_115 (by decide) ?_
      refine ih (i + 1) _ (by omega) ⟨TM_FK h.1 (f2 _), h.2.1.tr (f2 _), ?_, sg_s _ _ _ _, ?_, ?_⟩ (by rw [← rn_step smB_lt (bI_n c_102)]; exact hr)
      · rw [sg_k _ _ _ (by decide)]; exact h.2.2.1
      · rw [sg_k _ _ _ (by decide)]; exact h.2.2.2.2.1
      · rw [sg_k _ _ _ (by decide)]; exact h.2.2.2.2.2
