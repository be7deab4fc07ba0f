/-! ===== RainBallotModel's text: clauses ===== -/
set_option maxRecDepth 100000 in
theorem k_forgets (σ : Sg) : Cm 0 YX9_forgets [.ref 81] σ (fun v σ' => v = none ∧ ∃ W, W 0 = 0 ∧ W 1 = 30 ∧ W 2 = 8 ∧ σ' = sw σ 84 W) := by
  refine Cm_of (by decide +kernel) (Nat.le_of_ble_eq_true rfl) ?_
  have loop : ∀ (j k : Nat) (W : FN), k + j = 43 → (0 < k → W 0 = 0) → Ex (YX9_forgets, 0, xB0, none) 2 [.ref 81, .int (nI k)] [] (xMs (sw σ 84 W)) (xQ (fun v σ' => v = none ∧ ∃ W, W 0 = 0 ∧ W 1 = 30 ∧ W 2 = 8 ∧ σ' = sw σ 84 W)) := by
    intro j
    induction j with
    | zero =>
      intro k W hk hW
      obtain rfl : k = 43 := by omega
      refine x_iload_n dX9_forgets_2 rfl ?_
      refine x_bipush (v := 43) dX9_forgets_3 (by decide) ?_
      refine x_icmp_ge (tgt := 31) dX9_forgets_5 (by decide) (fun c_5 => ?_) (fun c_5 => (absurd (by decide) c_5))
      refine x_aload_n dX9_forgets_31 rfl ?_
      refine s_getr (ci := 9) (k := 3) (N := 20) (C := RX9) (T := TX9) dX9_forgets_32 lfX9_16 inX9 rfl (by decide) (rfl) rfl ?_
      refine x_iconst (v := 1) dX9_forgets_35 (by decide) ?_
      refine x_bipush (v := 30) dX9_forgets_36 (by decide) ?_
      refine s_iast dX9_forgets_38 (rfl) (j := 1) (hi := by decide) (hj := by omega) (hn := by decide) ?_
      refine x_aload_n dX9_forgets_39 rfl ?_
      refine s_getr (ci := 9) (k := 3) (N := 20) (C := RX9) (T := TX9) dX9_forgets_40 lfX9_16 inX9 rfl (by decide) (rfl) rfl ?_
      refine x_iconst (v := 2) dX9_forgets_43 (by decide) ?_
      refine x_bipush (v := 8) dX9_forgets_44 (by decide) ?_
      refine s_iast dX9_forgets_46 (rfl) (j := 2) (hi := by decide) (hj := by omega) (hn := by decide) ?_
      exact s_ret dX9_forgets_47 rfl (⟨rfl, upd (upd W 1 30) 2 8, hW (by decide), rfl, rfl, by rw [sg_def, sg_def, sw_sw, sw_sw, sw_s, sw_s]⟩)
    | succ j ih =>
      intro k W hk hW
      have hk43 : k < 43 := by omega
      have step : ∀ x : Int32, (k = 0 → x = 0) → Ex (YX9_forgets, 0, xB0, none) 2 [.ref 81, .int (nI (k + 1))] [] (xMs (sw σ 84 (upd W k x))) (xQ (fun v σ' => v = none ∧ ∃ W, W 0 = 0 ∧ W 1 = 30 ∧ W 2 = 8 ∧ σ' = sw σ 84 W)) := fun x hx => ih (k + 1) _ (by omega) (fun _ => by
        unfold upd
        by_cases e : 0 = k
        · rw [if_pos e]; exact hx e.symm
        · rw [if_neg e]; exact hW (by omega))
      refine x_iload_n dX9_forgets_2 rfl ?_
      refine x_bipush (v := 43) dX9_forgets_3 (by decide) ?_
      refine x_icmp_ge (tgt := 31) dX9_forgets_5 (by decide) (fun c_5 => (absurd c_5 (show ¬ nI 43 ≤ nI k from nI_ge hk43 (by omega)))) (fun c_5 => ?_)
      refine x_aload_n dX9_forgets_8 rfl ?_
      refine s_getr (ci := 9) (k := 3) (N := 20) (C := RX9) (T := TX9) dX9_forgets_9 lfX9_16 inX9 rfl (by decide) (rfl) rfl ?_
      refine x_iload_n dX9_forgets_12 rfl ?_
      refine x_iload_n dX9_forgets_13 rfl ?_
      refine x_bipush (v := 35) dX9_forgets_14 (by decide) ?_
      refine x_icmp_ge (tgt := 23) dX9_forgets_16 (by decide) (fun c_16 => ?_) (fun c_16 => ?_)
      · refine x_iconst (v := -1) dX9_forgets_23 (by decide) ?_
        refine s_iast dX9_forgets_24 (rfl) (hi := rfl) (hj := by omega) (hn := by decide) ?_
        refine s_iinc dX9_forgets_25 rfl (Nat.le_of_ble_eq_true rfl) rfl ?_
        refine x_goto (tgt := 2) dX9_forgets_28 (by decide) ?_
        rw [sg_def _ 84, sw_sw, sw_s]
        first
          | exact step _ (fun _ => rfl)
          | exact step _ (fun z => by rw [z] at c_16; exact absurd c_16 (by decide))
      · refine x_iconst (v := 0) dX9_forgets_19 (by decide) ?_
        refine x_goto (tgt := 24) dX9_forgets_20 (by decide) ?_
        refine s_iast dX9_forgets_24 (rfl) (hi := rfl) (hj := by omega) (hn := by decide) ?_
        refine s_iinc dX9_forgets_25 rfl (Nat.le_of_ble_eq_true rfl) rfl ?_
        refine x_goto (tgt := 2) dX9_forgets_28 (by decide) ?_
        rw [sg_def _ 84, sw_sw, sw_s]
        first
          | exact step _ (fun _ => rfl)
          | exact step _ (fun z => by rw [z] at c_16; exact absurd c_16 (by decide))
  refine x_iconst (v := 0) dX9_forgets_0 (by decide) ?_
  refine x_istore_n dX9_forgets_1 (Nat.le_of_ble_eq_true rfl) rfl ?_
  have h := loop 43 0 (σ 84) (by omega) (fun z => absurd z (by decide))
  rw [sw_id] at h
  exact h
theorem tr_snoc {n : Nat} {f g : FN} {x : Int32} (h : ∀ i, i < n → g i = f i) (hx : g n = x) : tr (n + 1) g = upd (tr n f) n x := by
  funext k
  unfold tr upd
  by_cases e : k = n
  · rw [if_pos e, if_pos (by omega), e, hx]
  · rw [if_neg e]
    show (if k < n + 1 then g k else 0) = if k < n then f k else 0
    by_cases q : k < n
    · rw [if_pos q, if_pos (by omega), h k q]
    · rw [if_neg q, if_neg (by omega)]
/-- the draft is p -/
def DP (σ : Sg) (p : PL) : Prop := σ 84 0 = nI p.1 ∧ p.1 ≤ 8 ∧ plM p.1 σ 84 = p
/-- behind a clause -/
def MCP (len : Nat) (c : Nat → Nat) (σ σ' : Sg) (v : Option Value) (r : Nat ⊕ (PL × Nat)) : Prop := F4 σ σ' ∧ match r with
  | .inl f => v = some (.int 0) ∧ σ' 81 13 = nI f
  | .inr q => v = some (.int 1) ∧ DP σ' q.1 ∧ ∃ e, e ≤ len ∧ σ' 81 11 = nI e ∧ tkS len c e = q.2
theorem TK.mc {len s : Nat} {c : Nat → Nat} {σ σ' : Sg} {p : PL} (h : TK len c σ' s) (f : F4 σ σ') (d : DP σ' p) : MCP len c σ σ' (some (.int 1)) (.inr (p, nxF len c s)) := ⟨f, rfl, d, tkE len c s, tkE_le h.2.1, h.2.2.2.1, rfl⟩
set_option maxRecDepth 100000 in
set_option maxHeartbeats 1000000 in
theorem k_readsStreet (σ : Sg) {len s kd : Nat} {c : Nat → Nat} {p : PL} (hk : TK len c σ s) (hd : DP σ p) : Cm 4 YX9_readsStreet [.ref 81, .int (nI kd)] σ (fun v σ' => MCP len c σ σ' v (csF len c p s (nI kd))) := by
  refine Cm_of (by decide +kernel) (Nat.le_of_ble_eq_true rfl) ?_
  obtain ⟨n, p2⟩ := p
  obtain ⟨h0, hn8, hpl⟩ := hd
  have h0 : σ 84 0 = nI n := h0
  have hn8 : n ≤ 8 := hn8
  have hp := hpl
  generalize hP : ((n, p2) : PL) = P at hp ⊢
  have hP1 : P.1 = n := by rw [← hP]
  have n8 : nI n = 8 ↔ n = 8 := nI_eq (b := 8) (by omega) (by decide)
  have s8 : P.1 = 8 → MCP len c σ σ (some (.int 0)) (csF len c P s (nI kd)) := fun z => by
    unfold csF
    rw [if_pos z]
    exact ⟨⟨fun _ _ => rfl, fun _ _ _ => rfl⟩, rfl, hk.2.2.1⟩

  refine x_aload_n dX9_readsStreet_0 rfl ?_
  refine s_getr (ci := 9) (k := 3) (N := 20) (C := RX9) (T := TX9) dX9_readsStreet_1 lfX9_16 inX9 rfl (by decide) (rfl) rfl ?_
  refine x_iconst (v := 0) dX9_readsStreet_4 (by decide) ?_
  refine s_iald dX9_readsStreet_5 (rfl) (j := 0) (hi := by decide) (hj := by omega) (hn := by decide) ?_
  refine x_istore_n dX9_readsStreet_6 (Nat.le_of_ble_eq_true rfl) rfl ?_
  refine x_iload_n dX9_readsStreet_7 rfl ?_
  refine x_bipush (v := 8) dX9_readsStreet_8 (by decide) ?_
  rw [h0]
  have k21 := hk
  refine x_icmp_eq (tgt := 55) dX9_readsStreet_10 (by decide) (fun c_10 => ?_) (fun c_10 => ?_)
  · refine x_iconst (v := 0) dX9_readsStreet_55 (by decide) ?_
    exact s_zret dX9_readsStreet_56 rfl (by first | exact Or.inl rfl | exact Or.inr rfl | assumption | exact bI_01 _) (by first
      | exact s8 (by rw [hP1]; exact n8.mp c_10)
      | (have g0 : ¬ P.1 = 8 := fun z => c_10 (n8.mpr (hP1.symm.trans z))
         unfold csF
         rw [if_neg g0]
         first
           | (rw [if_pos (show rdB len c (nxF len c s) 0 20 (-1) = false from bI_0.mp c_24)]; exact ⟨f1, rfl, k35.2.2.1⟩)
           | (rw [if_neg (show ¬ rdB len c (nxF len c s) 0 20 (-1) = false from fun z => c_24 (bI_0.mpr z)), if_pos (show rdB len c (nxF len c (nxF len c s)) 0 20 (-1) = false from bI_0.mp c_38)]; exact ⟨f1.tr f2, rfl, k49.2.2.1⟩)
           | (rw [if_neg (show ¬ rdB len c (nxF len c s) 0 20 (-1) = false from fun z => c_24 (bI_0.mpr z)), if_neg (show ¬ rdB len c (nxF len c (nxF len c s)) 0 20 (-1) = false from fun z => c_38 (bI_0.mpr z)), if_pos (show rdB len c (nxF len c (nxF len c (nxF len c s))) 0 99 (-1) = false from bI_0.mp c_52)]; exact ⟨(f1.tr f2).tr f3, rfl, k57.2.2.1⟩)))
  · refine x_aload_n dX9_readsStreet_13 rfl ?_
    refine x_bipush (v := 11) dX9_readsStreet_14 (by decide) ?_
    refine x_iload_n dX9_readsStreet_16 rfl ?_
    refine x_iadd dX9_readsStreet_17 ?_
    have hn : n < 8 := by have z : ¬ n = 8 := fun z => c_10 (n8.mpr z); omega
    rw [show (11 : Int32) + nI n = nI (11 + n) from nI_add 11 n]
    refine x_iconst (v := 0) dX9_readsStreet_18 (by decide) ?_
    refine x_bipush (v := 20) dX9_readsStreet_19 (by decide) ?_
    refine s_callV dX9_readsStreet_21 (k_number σ (e := tkE len c (s)) (p := 11 + n) (lo := 0) (hi := 20) (c := c) (len := len) k21.1 (tkE_le k21.2.1) k21.2.2.2.1 (by omega) (by decide) (by decide)) rfl w_X9_number lmX9_84 im_X9_number se_X9_number rfl (rfl) rfl (Nat.le_of_ble_eq_true rfl) rfl (by decide) (fun v_21 σ_21 h_21 => ?_)
    obtain ⟨rfl, k35, f1, e1⟩ := h_21
    refine x_if_eq (tgt := 55) dX9_readsStreet_24 (by decide) (fun c_24 => ?_) (fun c_24 => ?_)
    · refine x_iconst (v := 0) dX9_readsStreet_55 (by decide) ?_
      exact s_zret dX9_readsStreet_56 rfl (by first | exact Or.inl rfl | exact Or.inr rfl | assumption | exact bI_01 _) (by first
        | exact s8 (by rw [hP1]; exact n8.mp c_10)
        | (have g0 : ¬ P.1 = 8 := fun z => c_10 (n8.mpr (hP1.symm.trans z))
           unfold csF
           rw [if_neg g0]
           first
             | (rw [if_pos (show rdB len c (nxF len c s) 0 20 (-1) = false from bI_0.mp c_24)]; exact ⟨f1, rfl, k35.2.2.1⟩)
             | (rw [if_neg (show ¬ rdB len c (nxF len c s) 0 20 (-1) = false from fun z => c_24 (bI_0.mpr z)), if_pos (show rdB len c (nxF len c (nxF len c s)) 0 20 (-1) = false from bI_0.mp c_38)]; exact ⟨f1.tr f2, rfl, k49.2.2.1⟩)
             | (rw [if_neg (show ¬ rdB len c (nxF len c s) 0 20 (-1) = false from fun z => c_24 (bI_0.mpr z)), if_neg (show ¬ rdB len c (nxF len c (nxF len c s)) 0 20 (-1) = false from fun z => c_38 (bI_0.mpr z)), if_pos (show rdB len c (nxF len c (nxF len c (nxF len c s))) 0 99 (-1) = false from bI_0.mp c_52)]; exact ⟨(f1.tr f2).tr f3, rfl, k57.2.2.1⟩)))
    · refine x_aload_n dX9_readsStreet_27 rfl ?_
      refine x_bipush (v := 19) dX9_readsStreet_28 (by decide) ?_
      refine x_iload_n dX9_readsStreet_30 rfl ?_
      refine x_iadd dX9_readsStreet_31 ?_
      rw [show (19 : Int32) + nI n = nI (19 + n) from nI_add 19 n]
      refine x_iconst (v := 0) dX9_readsStreet_32 (by decide) ?_
      refine x_bipush (v := 20) dX9_readsStreet_33 (by decide) ?_
      refine s_callV dX9_readsStreet_35 (k_number σ_21 (e := tkE len c (nxF len c s)) (p := 19 + n) (lo := 0) (hi := 20) (c := c) (len := len) k35.1 (tkE_le k35.2.1) k35.2.2.2.1 (by omega) (by decide) (by decide)) rfl w_X9_number lmX9_84 im_X9_number se_X9_number rfl (rfl) rfl (Nat.le_of_ble_eq_true rfl) rfl (by decide) (fun v_35 σ_35 h_35 => ?_)
      obtain ⟨rfl, k49, f2, e2⟩ := h_35
      refine x_if_eq (tgt := 55) dX9_readsStreet_38 (by decide) (fun c_38 => ?_) (fun c_38 => ?_)
      · refine x_iconst (v := 0) dX9_readsStreet_55 (by decide) ?_
        exact s_zret dX9_readsStreet_56 rfl (by first | exact Or.inl rfl | exact Or.inr rfl | assumption | exact bI_01 _) (by first
          | exact s8 (by rw [hP1]; exact n8.mp c_10)
          | (have g0 : ¬ P.1 = 8 := fun z => c_10 (n8.mpr (hP1.symm.trans z))
             unfold csF
             rw [if_neg g0]
             first
               | (rw [if_pos (show rdB len c (nxF len c s) 0 20 (-1) = false from bI_0.mp c_24)]; exact ⟨f1, rfl, k35.2.2.1⟩)
               | (rw [if_neg (show ¬ rdB len c (nxF len c s) 0 20 (-1) = false from fun z => c_24 (bI_0.mpr z)), if_pos (show rdB len c (nxF len c (nxF len c s)) 0 20 (-1) = false from bI_0.mp c_38)]; exact ⟨f1.tr f2, rfl, k49.2.2.1⟩)
               | (rw [if_neg (show ¬ rdB len c (nxF len c s) 0 20 (-1) = false from fun z => c_24 (bI_0.mpr z)), if_neg (show ¬ rdB len c (nxF len c (nxF len c s)) 0 20 (-1) = false from fun z => c_38 (bI_0.mpr z)), if_pos (show rdB len c (nxF len c (nxF len c (nxF len c s))) 0 99 (-1) = false from bI_0.mp c_52)]; exact ⟨(f1.tr f2).tr f3, rfl, k57.2.2.1⟩)))
      · refine x_aload_n dX9_readsStreet_41 rfl ?_
        refine x_bipush (v := 27) dX9_readsStreet_42 (by decide) ?_
        refine x_iload_n dX9_readsStreet_44 rfl ?_
        refine x_iadd dX9_readsStreet_45 ?_
        rw [show (27 : Int32) + nI n = nI (27 + n) from nI_add 27 n]
        refine x_iconst (v := 0) dX9_readsStreet_46 (by decide) ?_
        refine x_bipush (v := 99) dX9_readsStreet_47 (by decide) ?_
        refine s_callV dX9_readsStreet_49 (k_number σ_35 (e := tkE len c (nxF len c (nxF len c s))) (p := 27 + n) (lo := 0) (hi := 99) (c := c) (len := len) k49.1 (tkE_le k49.2.1) k49.2.2.2.1 (by omega) (by decide) (by decide)) rfl w_X9_number lmX9_84 im_X9_number se_X9_number rfl (rfl) rfl (Nat.le_of_ble_eq_true rfl) rfl (by decide) (fun v_49 σ_49 h_49 => ?_)
        obtain ⟨rfl, k57, f3, e3⟩ := h_49
        refine x_if_ne (tgt := 57) dX9_readsStreet_52 (by decide) (fun c_52 => ?_) (fun c_52 => ?_)
        · refine x_aload_n dX9_readsStreet_57 rfl ?_
          refine s_getr (ci := 9) (k := 3) (N := 20) (C := RX9) (T := TX9) dX9_readsStreet_58 lfX9_16 inX9 rfl (by decide) (rfl) rfl ?_
          refine x_iconst (v := 3) dX9_readsStreet_61 (by decide) ?_
          refine x_iload_n dX9_readsStreet_62 rfl ?_
          refine x_iadd dX9_readsStreet_63 ?_
          refine x_iload_n dX9_readsStreet_64 rfl ?_
          refine s_iast dX9_readsStreet_65 (rfl) (hi := nI_add 3 n) (hj := by omega) (hn := by decide) ?_
          refine xname (fun σ_65 e_65 => ?_)
          refine x_aload_n dX9_readsStreet_66 rfl ?_
          refine s_getr (ci := 9) (k := 3) (N := 20) (C := RX9) (T := TX9) dX9_readsStreet_67 lfX9_16 inX9 rfl (by decide) (rfl) rfl ?_
          refine x_bipush (v := 35) dX9_readsStreet_70 (by decide) ?_
          refine x_iload_n dX9_readsStreet_72 rfl ?_
          refine x_iadd dX9_readsStreet_73 ?_
          refine x_iconst (v := -1) dX9_readsStreet_74 (by decide) ?_
          refine s_iast dX9_readsStreet_75 (rfl) (hi := nI_add 35 n) (hj := by omega) (hn := by decide) ?_
          refine xname (fun σ_75 e_75 => ?_)
          refine x_aload_n dX9_readsStreet_76 rfl ?_
          refine s_getr (ci := 9) (k := 3) (N := 20) (C := RX9) (T := TX9) dX9_readsStreet_77 lfX9_16 inX9 rfl (by decide) (rfl) rfl ?_
          refine x_iconst (v := 0) dX9_readsStreet_80 (by decide) ?_
          refine x_dup2 dX9_readsStreet_81 rfl rfl ?_
          refine s_iald dX9_readsStreet_82 (rfl) (j := 0) (hi := by decide) (hj := by omega) (hn := by decide) ?_
          refine x_iconst (v := 1) dX9_readsStreet_83 (by decide) ?_
          refine x_iadd dX9_readsStreet_84 ?_
          refine s_iast dX9_readsStreet_85 (rfl) (j := 0) (hi := by decide) (hj := by omega) (hn := by decide) ?_
          refine xname (fun σ_85 e_85 => ?_)
          refine x_iconst (v := 1) dX9_readsStreet_86 (by decide) ?_
          refine s_zret dX9_readsStreet_87 rfl (by first | exact Or.inl rfl | exact Or.inr rfl | assumption | exact bI_01 _) ?_
          have g0 : ¬ P.1 = 8 := fun z => c_10 (n8.mpr (hP1.symm.trans z))
          have r1 : rdB len c (nxF len c s) 0 20 (-1) = true := bI_n c_24
          have r2 : rdB len c (nxF len c (nxF len c s)) 0 20 (-1) = true := bI_n c_38
          have r3 : rdB len c (nxF len c (nxF len c (nxF len c s))) 0 99 (-1) = true := bI_n c_52
          unfold csF
          rw [if_neg g0, if_neg (by rw [r1]; decide), if_neg (by rw [r2]; decide), if_neg (by rw [r3]; decide)]
          have e4 : σ_85 = sw σ_49 84 (σ_85 84) := by
            rw [e_85, e_75, e_65]
            simp only [sg_def, sw_sw, sw_s]
          have v1 := va_rd r1
          have v2 := va_rd r2
          have v3 := va_rd r3
          have E3 : σ_49 84 = upd (upd (upd (σ 84) (11 + n) (nI (rdV len c (nxF len c s)))) (19 + n) (nI (rdV len c (nxF len c (nxF len c s))))) (27 + n) (nI (rdV len c (nxF len c (nxF len c (nxF len c s))))) := by
            rw [← v1, ← v2, ← v3]
            exact e3.trans (by rw [e2, e1]; rfl)
          have E : ∀ i, σ_85 84 i = if i = 0 then nI (n + 1) else if i = 35 + n then -1 else if i = 3 + n then nI kd else if i = 27 + n then nI (rdV len c (nxF len c (nxF len c (nxF len c s)))) else if i = 19 + n then nI (rdV len c (nxF len c (nxF len c s))) else if i = 11 + n then nI (rdV len c (nxF len c s)) else σ 84 i := fun i => by
            have q0 : σ_75 84 0 = nI n := by
              rw [e_75, sg_k _ _ _ (by omega), e_65, sg_k _ _ _ (by omega), E3]
              unfold upd
              rw [if_neg (by omega), if_neg (by omega), if_neg (by omega)]
              exact h0
            rw [e_85, q0, nI_1, e_75, e_65]
            simp only [sg_def, sw_s, E3]
            rfl
          have f5 : F4 σ σ_85 := ((f1.tr f2).tr f3).tr (by rw [e4]; exact F4_84 _)
          have k5 : TK len c σ_85 (nxF len c (nxF len c (nxF len c s))) := by rw [e4]; exact TK_84 k57 _
          refine TK.mc k5 f5 ?_
          refine ⟨by rw [E 0, if_pos rfl]; show _ = nI (P.1 + 1); rw [hP1], by show P.1 + 1 ≤ 8; omega, ?_⟩
          rw [← hp, hP1]
          unfold adP plM
          refine congr (congrArg Prod.mk rfl) (congr (congrArg Prod.mk ?_) (congr (congrArg Prod.mk ?_) (congr (congrArg Prod.mk ?_) (congr (congrArg Prod.mk ?_) (congr (congrArg Prod.mk ?_) (congr (congrArg Prod.mk ?_) ?_))))))
          · rw [E, if_neg (by omega), if_neg (by omega), if_neg (by omega), if_neg (by omega), if_neg (by omega), if_neg (by omega)]
          · rw [E, if_neg (by omega), if_neg (by omega), if_neg (by omega), if_neg (by omega), if_neg (by omega), if_neg (by omega)]
          · refine tr_snoc (fun i hi => ?_) ?_
            · rw [E, if_neg (by omega), if_neg (by omega), if_neg (by omega), if_neg (by omega), if_neg (by omega), if_neg (by omega)]
            · rw [E, if_neg (by omega), if_neg (by omega), if_pos (by omega)]
          · refine tr_snoc (fun i hi => ?_) ?_
            · rw [E, if_neg (by omega), if_neg (by omega), if_neg (by omega), if_neg (by omega), if_neg (by omega), if_neg (by omega)]
            · rw [E, if_neg (by omega), if_neg (by omega), if_neg (by omega), if_neg (by omega), if_neg (by omega), if_pos rfl]
          · refine tr_snoc (fun i hi => ?_) ?_
            · rw [E, if_neg (by omega), if_neg (by omega), if_neg (by omega), if_neg (by omega), if_neg (by omega), if_neg (by omega)]
            · rw [E, if_neg (by omega), if_neg (by omega), if_neg (by omega), if_neg (by omega), if_pos rfl]
          · refine tr_snoc (fun i hi => ?_) ?_
            · rw [E, if_neg (by omega), if_neg (by omega), if_neg (by omega), if_neg (by omega), if_neg (by omega), if_neg (by omega)]
            · rw [E, if_neg (by omega), if_neg (by omega), if_neg (by omega), if_pos rfl]
          · refine tr_snoc (fun i hi => ?_) ?_
            · rw [E, if_neg (by omega), if_neg (by omega), if_neg (by omega), if_neg (by omega), if_neg (by omega), if_neg (by omega)]
            · rw [E, if_neg (by omega), if_pos rfl]
        · refine x_iconst (v := 0) dX9_readsStreet_55 (by decide) ?_
          exact s_zret dX9_readsStreet_56 rfl (by first | exact Or.inl rfl | exact Or.inr rfl | assumption | exact bI_01 _) (by first
            | exact s8 (by rw [hP1]; exact n8.mp c_10)
            | (have g0 : ¬ P.1 = 8 := fun z => c_10 (n8.mpr (hP1.symm.trans z))
               unfold csF
               rw [if_neg g0]
               first
                 | (rw [if_pos (show rdB len c (nxF len c s) 0 20 (-1) = false from bI_0.mp c_24)]; exact ⟨f1, rfl, k35.2.2.1⟩)
                 | (rw [if_neg (show ¬ rdB len c (nxF len c s) 0 20 (-1) = false from fun z => c_24 (bI_0.mpr z)), if_pos (show rdB len c (nxF len c (nxF len c s)) 0 20 (-1) = false from bI_0.mp c_38)]; exact ⟨f1.tr f2, rfl, k49.2.2.1⟩)
                 | (rw [if_neg (show ¬ rdB len c (nxF len c s) 0 20 (-1) = false from fun z => c_24 (bI_0.mpr z)), if_neg (show ¬ rdB len c (nxF len c (nxF len c s)) 0 20 (-1) = false from fun z => c_38 (bI_0.mpr z)), if_pos (show rdB len c (nxF len c (nxF len c (nxF len c s))) 0 99 (-1) = false from bI_0.mp c_52)]; exact ⟨(f1.tr f2).tr f3, rfl, k57.2.2.1⟩)))
