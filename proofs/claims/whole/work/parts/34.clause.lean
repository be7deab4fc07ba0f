/-! ===== clauses ===== -/
def nxF (len : Nat) (c : Nat → Nat) (s : Nat) : Nat := tkS len c (tkE len c s)
theorem nxF_le {len : Nat} {c : Nat → Nat} {s : Nat} (h : s ≤ len) : nxF len c s ≤ len := tkS_le (tkE_le h)
def zF : FN := fun _ => 0
theorem tr_0 (f : FN) : tr 0 f = zF := by funext k; exact if_neg (Nat.not_lt_zero k)
/-- the plan behind a clause -/
def tnP : PL := (0, 30, 8, zF, zF, zF, zF, zF)
def adP (p : PL) (k : Int32) (a b w : Nat) : PL := (p.1 + 1, p.2.1, p.2.2.1, upd p.2.2.2.1 p.1 k, upd p.2.2.2.2.1 p.1 (nI a), upd p.2.2.2.2.2.1 p.1 (nI b), upd p.2.2.2.2.2.2.1 p.1 (nI w), upd p.2.2.2.2.2.2.2 p.1 (-1))
def tlP (p : PL) (a b : Nat) : PL := (p.1, p.2.1, p.2.2.1, p.2.2.2.1, p.2.2.2.2.1, p.2.2.2.2.2.1, p.2.2.2.2.2.2.1, upd p.2.2.2.2.2.2.2 a (nI b))
def cpP (p : PL) (x : Nat) : PL := (p.1, nI x, p.2.2)
def inP (p : PL) (x : Nat) : PL := (p.1, p.2.1, nI x, p.2.2.2)
def csF (len : Nat) (c : Nat → Nat) (p : PL) (s : Nat) (k : Int32) : Nat ⊕ (PL × Nat) :=
  if p.1 = 8 then .inl s
  else if rdB len c (nxF len c s) 0 20 (-1) = false then .inl (nxF len c s)
  else if rdB len c (nxF len c (nxF len c s)) 0 20 (-1) = false then .inl (nxF len c (nxF len c s))
  else if rdB len c (nxF len c (nxF len c (nxF len c s))) 0 99 (-1) = false then .inl (nxF len c (nxF len c (nxF len c s)))
  else .inr (adP p k (rdV len c (nxF len c s)) (rdV len c (nxF len c (nxF len c s))) (rdV len c (nxF len c (nxF len c (nxF len c s)))), nxF len c (nxF len c (nxF len c (nxF len c s))))
def slF (len : Nat) (c : Nat → Nat) (p : PL) (s : Nat) : Nat ⊕ (PL × Nat) :=
  if rdB len c (nxF len c s) 0 (nI p.1 - 1) (-1) = false then .inl (nxF len c s)
  else if rdB len c (nxF len c (nxF len c s)) 0 (nI p.1 - 1) (nI (rdV len c (nxF len c s))) = false then .inl (nxF len c (nxF len c s))
  else .inr (tlP p (rdV len c (nxF len c s)) (rdV len c (nxF len c (nxF len c s))), nxF len c (nxF len c (nxF len c s)))
def clsF (len : Nat) (c : Nat → Nat) (p : PL) (s : Nat) : Nat ⊕ (PL × Nat) :=
  if wdF c s (tkE len c s) 0 = true then .inr (tnP, nxF len c s)
  else if wdF c s (tkE len c s) 1 = true then slF len c p s
  else if wdF c s (tkE len c s) 2 = true then (if rdB len c (nxF len c s) 5 99 (-1) = false then .inl (nxF len c s) else .inr (cpP p (rdV len c (nxF len c s)), nxF len c (nxF len c s)))
  else if wdF c s (tkE len c s) 3 = true then (if rdB len c (nxF len c s) 1 20 (-1) = false then .inl (nxF len c s) else .inr (inP p (rdV len c (nxF len c s)), nxF len c (nxF len c s)))
  else if kwF c s (tkE len c s) = -1 then .inl s
  else csF len c p s (kwF c s (tkE len c s))
/-- the reader's state; and where it stopped -/
def FR (σ0 σ : Sg) : Prop := ∀ c, c ≠ 1 → ¬ (9 ≤ c ∧ c ≤ 14) → σ c = σ0 c
def RS (len : Nat) (c : Nat → Nat) (σ0 σ : Sg) (s : Nat) (p : PL) : Prop := TX σ len c ∧ s ≤ len ∧ σ 1 2 = nI s ∧ σ 1 3 = nI (tkE len c s) ∧ σ 9 5 = nI p.1 ∧ p.1 ≤ 8 ∧ plP p.1 σ 9 = p ∧ σ 1 4 = σ0 1 4 ∧ FR σ0 σ
def FS (len : Nat) (c : Nat → Nat) (σ0 σ : Sg) (f : Nat) : Prop := TX σ len c ∧ f ≤ len ∧ σ 1 2 = nI f ∧ σ 1 4 = σ0 1 4 ∧ FR σ0 σ
def RSF (len : Nat) (c : Nat → Nat) (σ0 σ' : Sg) (v : Option Value) (r : Nat ⊕ (PL × Nat)) : Prop := match r with
  | .inl f => v = some (.int 0) ∧ FS len c σ0 σ' f
  | .inr q => v = some (.int 1) ∧ RS len c σ0 σ' q.2 q.1
theorem RS.fs {len : Nat} {c : Nat → Nat} {σ0 σ : Sg} {s : Nat} {p : PL} (h : RS len c σ0 σ s p) : FS len c σ0 σ s := ⟨h.1, h.2.1, h.2.2.1, h.2.2.2.2.2.2.2.1, h.2.2.2.2.2.2.2.2⟩
theorem plP_st2 {n : Nat} {σ : Sg} {x y : Int32} : plP n (st2 σ x y) 9 = plP n σ 9 := rfl
theorem RS.mv {len : Nat} {c : Nat → Nat} {σ0 σ : Sg} {s : Nat} {p : PL} (h : RS len c σ0 σ s p) : RS len c σ0 (st2 σ (nI (nxF len c s)) (nI (tkE len c (nxF len c s)))) (nxF len c s) p := by
  obtain ⟨h1, h2, h3, h4, h5, h6, h7, h8, h9⟩ := h
  exact ⟨TX_st2 h1 _ _, nxF_le h2, st2_s _ _ _, st2_e _ _ _, by rw [st2_n _ _ _ (by decide)]; exact h5, h6, h7, by rw [st2_c]; exact h8, fun c a b => by rw [st2_n _ _ _ a]; exact h9 c a b⟩
theorem k_stepR {len : Nat} {c : Nat → Nat} {σ0 σ : Sg} {s : Nat} {p : PL} (h : RS len c σ0 σ s p) : Cm 1 YX7_step [.ref 1] σ (fun v σ' => v = none ∧ σ' = st2 σ (nI (nxF len c s)) (nI (tkE len c (nxF len c s)))) := k_step σ h.1 h.2.2.2.1 (tkE_le h.2.1)
theorem k_rnR {len : Nat} {c : Nat → Nat} {σ0 σ : Sg} {s : Nat} {p : PL} (h : RS len c σ0 σ s p) (lo hi but : Int32) : Cm 2 YX7_readNumber [.ref 1, .int lo, .int hi, .int but] σ (fun v σ' => (rdB len c s lo hi but = true ∧ v = some (.int (nI (rdV len c s))) ∧ σ' = st2 σ (nI (nxF len c s)) (nI (tkE len c (nxF len c s)))) ∨ (rdB len c s lo hi but = false ∧ v = some (.int (-1)) ∧ σ' = σ)) := k_readNumber σ h.1 h.2.2.1 h.2.2.2.1 h.2.1 lo hi but
theorem rdV_99 {len s : Nat} {c : Nat → Nat} {lo hi but : Int32} (h : rdB len c s lo hi but = true) : rdV len c s ≤ 99 := by
  unfold rdB at h
  simp only [Bool.and_eq_true, decide_eq_true_eq] at h
  obtain ⟨h1, h2, -⟩ := h
  exact nuF_2 h2 (fun j hj => (tkE_dg h1).2 (s + j) (by omega) (by omega))
theorem tr_up1 {n : Nat} {f : FN} {x : Int32} : tr (n + 1) (upd f n x) = upd (tr n f) n x := by
  funext k
  unfold tr upd
  by_cases e : k = n
  · subst e; rw [if_pos (Nat.lt_succ_self k), if_pos rfl, if_pos rfl]
  · rw [if_neg e, if_neg e]
    show (if k < n + 1 then f k else 0) = (if k < n then f k else 0)
    by_cases h : k < n
    · rw [if_pos h, if_pos (by omega)]
    · rw [if_neg h, if_neg (by omega)]
theorem RS.add {len : Nat} {c : Nat → Nat} {σ0 σ σ' : Sg} {s : Nat} {p : PL} {k : Int32} {a b w : Nat} (h : RS len c σ0 σ s p) (a1 : σ' 9 5 = nI (p.1 + 1)) (a2 : σ' 9 6 = σ 9 6) (a3 : σ' 9 7 = σ 9 7) (a4 : σ' 10 = upd (σ 10) p.1 k) (a5 : σ' 11 = upd (σ 11) p.1 (nI a)) (a6 : σ' 12 = upd (σ 12) p.1 (nI b)) (a7 : σ' 13 = upd (σ 13) p.1 (nI w)) (a8 : σ' 14 = upd (σ 14) p.1 (-1)) (a9 : ∀ c, ¬ (9 ≤ c ∧ c ≤ 14) → σ' c = σ c) (hp : p.1 < 8) : RS len c σ0 σ' s (adP p k a b w) := by
  obtain ⟨h1, h2, h3, h4, h5, h6, h7, h8, h9⟩ := h
  have e1 : σ' 1 = σ 1 := a9 1 (by omega)
  have e2 : σ' 2 = σ 2 := a9 2 (by omega)
  refine ⟨⟨by rw [e1]; exact h1.1, h1.2.1, fun i hi => by rw [e2]; exact h1.2.2 i hi⟩, h2, by rw [e1]; exact h3, by rw [e1]; exact h4, a1, hp, ?_, by rw [e1]; exact h8, fun c a b => by rw [a9 c b]; exact h9 c a b⟩
  show (p.1 + 1, σ' 9 6, σ' 9 7, tr (p.1 + 1) (σ' 10), tr (p.1 + 1) (σ' 11), tr (p.1 + 1) (σ' 12), tr (p.1 + 1) (σ' 13), tr (p.1 + 1) (σ' 14)) = _
  rw [a2, a3, a4, a5, a6, a7, a8, tr_up1, tr_up1, tr_up1, tr_up1, tr_up1]
  have g := h7
  unfold plP at g
  unfold adP
  rw [← g]
set_option maxRecDepth 100000 in
/-- a street's clause, behind its word -/
theorem k_readStreet (σ0 σ : Sg) {len s : Nat} {c : Nat → Nat} {p : PL} (h : RS len c σ0 σ s p) (k : Int32) : Cm 3 YX7_readStreet [.ref 1, .ref 9, .int k] σ (fun v σ' => RSF len c σ0 σ' v (if k = -1 then .inl s else csF len c p s k)) := by
  refine Cm_of (by decide +kernel) (Nat.le_of_ble_eq_true rfl) ?_
  by_cases hk : k = -1
  · rw [if_pos hk]
    refine x_iload_n dX7_readStreet_0 rfl ?_
    refine x_iconst (v := -1) dX7_readStreet_1 (by decide) ?_
    refine x_icmp_eq (tgt := 14) dX7_readStreet_2 (by decide) (fun c_2 => ?_) (fun c_2 => (absurd hk c_2))
    refine x_iconst (v := 0) dX7_readStreet_14 (by decide) ?_
    exact s_zret dX7_readStreet_15 rfl (by first | exact Or.inl rfl | exact Or.inr rfl | assumption) (⟨rfl, h.fs⟩)
  · rw [if_neg hk]
    unfold csF
    have h8 := h.2.2.2.2.2.1
    by_cases hp : p.1 = 8
    · rw [if_pos hp]
      refine x_iload_n dX7_readStreet_0 rfl ?_
      refine x_iconst (v := -1) dX7_readStreet_1 (by decide) ?_
      refine x_icmp_eq (tgt := 14) dX7_readStreet_2 (by decide) (fun c_2 => (absurd c_2 hk)) (fun c_2 => ?_)
      refine x_aload_n dX7_readStreet_5 rfl ?_
      refine s_getiN (ci := 3) (k := 5) (N := 8) (C := RX3) (T := TX3) dX7_readStreet_6 lfX7_98 inX3 rfl (by decide) (rfl) rfl ?_
      refine x_bipush (v := 8) dX7_readStreet_9 (by decide) ?_
      refine x_icmp_lt (tgt := 16) dX7_readStreet_11 (by decide) (fun c_11 => (absurd c_11 (by rw [h.2.2.2.2.1, hp]; decide))) (fun c_11 => ?_)
      refine x_iconst (v := 0) dX7_readStreet_14 (by decide) ?_
      exact s_zret dX7_readStreet_15 rfl (by first | exact Or.inl rfl | exact Or.inr rfl | assumption) (⟨rfl, h.fs⟩)
    · rw [if_neg hp]
      have hm1 : ∀ m : Nat, m < 200 → ¬ nI m = -1 := fun m hm z => by have := nI_pos' (n := m) (by omega); rw [z] at this; exact absurd this (by decide)

      refine x_iload_n dX7_readStreet_0 rfl ?_
      refine x_iconst (v := -1) dX7_readStreet_1 (by decide) ?_
      refine x_icmp_eq (tgt := 14) dX7_readStreet_2 (by decide) (fun c_2 => (absurd c_2 hk)) (fun c_2 => ?_)
      refine x_aload_n dX7_readStreet_5 rfl ?_
      refine s_getiN (ci := 3) (k := 5) (N := 8) (C := RX3) (T := TX3) dX7_readStreet_6 lfX7_98 inX3 rfl (by decide) (rfl) rfl ?_
      refine x_bipush (v := 8) dX7_readStreet_9 (by decide) ?_
      refine x_icmp_lt (tgt := 16) dX7_readStreet_11 (by decide) (fun c_11 => ?_) (fun c_11 => (absurd (show σ 9 5 < nI 8 from by rw [h.2.2.2.2.1]; exact nI_lt (by omega) (by decide)) c_11))
      refine x_aload_n dX7_readStreet_16 rfl ?_
      refine s_callV dX7_readStreet_17 (k_stepR h) rfl w_X7_step lmX7_34 im_X7_step se_X7_step rfl (rfl) rfl (Nat.le_of_ble_eq_true rfl) rfl (by decide) (fun v_17 σ_17 h_17 => ?_)
      obtain ⟨rfl, rfl⟩ := h_17
      have r1 := h.mv
      refine x_aload_n dX7_readStreet_20 rfl ?_
      refine x_iconst (v := 0) dX7_readStreet_21 (by decide) ?_
      refine x_bipush (v := 20) dX7_readStreet_22 (by decide) ?_
      refine x_iconst (v := -1) dX7_readStreet_24 (by decide) ?_
      refine s_callV dX7_readStreet_25 (k_rnR r1 0 20 (-1)) rfl w_X7_readNumber lmX7_73 im_X7_readNumber se_X7_readNumber rfl (rfl) rfl (Nat.le_of_ble_eq_true rfl) rfl (by decide) (fun v_25 σ_25 h_25 => ?_)
      skip
      rcases h_25 with ⟨b1, rfl, rfl⟩ | ⟨b1, rfl, rfl⟩
      · rw [if_neg (by rw [b1]; decide)]
        have r2 := r1.mv
        have d1 := rdV_99 b1
        refine x_istore_n dX7_readStreet_28 (Nat.le_of_ble_eq_true rfl) rfl ?_
        refine x_iload_n dX7_readStreet_29 rfl ?_
        refine x_iconst (v := -1) dX7_readStreet_30 (by decide) ?_
        refine x_icmp_ne (tgt := 36) dX7_readStreet_31 (by decide) (fun c_31 => ?_) (fun c_31 => (absurd c_31 (hm1 _ (by omega))))
        refine x_aload_n dX7_readStreet_36 rfl ?_
        refine x_iconst (v := 0) dX7_readStreet_37 (by decide) ?_
        refine x_bipush (v := 20) dX7_readStreet_38 (by decide) ?_
        refine x_iconst (v := -1) dX7_readStreet_40 (by decide) ?_
        refine s_callV dX7_readStreet_41 (k_rnR r2 0 20 (-1)) rfl w_X7_readNumber lmX7_73 im_X7_readNumber se_X7_readNumber rfl (rfl) rfl (Nat.le_of_ble_eq_true rfl) rfl (by decide) (fun v_41 σ_41 h_41 => ?_)
        skip
        rcases h_41 with ⟨b2, rfl, rfl⟩ | ⟨b2, rfl, rfl⟩
        · rw [if_neg (by rw [b2]; decide)]
          have r3 := r2.mv
          have d2 := rdV_99 b2
          refine x_istore dX7_readStreet_44 (Nat.le_of_ble_eq_true rfl) rfl ?_
          refine x_iload dX7_readStreet_46 rfl ?_
          refine x_iconst (v := -1) dX7_readStreet_48 (by decide) ?_
          refine x_icmp_ne (tgt := 54) dX7_readStreet_49 (by decide) (fun c_49 => ?_) (fun c_49 => (absurd c_49 (hm1 _ (by omega))))
          refine x_aload_n dX7_readStreet_54 rfl ?_
          refine x_iconst (v := 0) dX7_readStreet_55 (by decide) ?_
          refine x_bipush (v := 99) dX7_readStreet_56 (by decide) ?_
          refine x_iconst (v := -1) dX7_readStreet_58 (by decide) ?_
          refine s_callV dX7_readStreet_59 (k_rnR r3 0 99 (-1)) rfl w_X7_readNumber lmX7_73 im_X7_readNumber se_X7_readNumber rfl (rfl) rfl (Nat.le_of_ble_eq_true rfl) rfl (by decide) (fun v_59 σ_59 h_59 => ?_)
          skip
          rcases h_59 with ⟨b3, rfl, rfl⟩ | ⟨b3, rfl, rfl⟩
          · rw [if_neg (by rw [b3]; decide)]
            have r4 := r3.mv
            have d3 := rdV_99 b3
            refine x_istore dX7_readStreet_62 (Nat.le_of_ble_eq_true rfl) rfl ?_
            refine x_iload dX7_readStreet_64 rfl ?_
            refine x_iconst (v := -1) dX7_readStreet_66 (by decide) ?_
            refine x_icmp_ne (tgt := 72) dX7_readStreet_67 (by decide) (fun c_67 => ?_) (fun c_67 => (absurd c_67 (hm1 _ (by omega))))
            refine x_aload_n dX7_readStreet_72 rfl ?_
            refine x_iload_n dX7_readStreet_73 rfl ?_
            refine x_iload_n dX7_readStreet_74 rfl ?_
            refine x_iload dX7_readStreet_75 rfl ?_
            refine x_iload dX7_readStreet_77 rfl ?_
            refine s_callV dX7_readStreet_79 (k_pladd _ (n := p.1) r4.2.2.2.2.1 (by omega) k (nI (rdV len c (nxF len c s))) (nI (rdV len c (nxF len c (nxF len c s)))) (nI (rdV len c (nxF len c (nxF len c (nxF len c s)))))) rfl w_X3_add lmX7_101 im_X3_add se_X3_add rfl (rfl) rfl (Nat.le_of_ble_eq_true rfl) rfl (by decide) (fun v_79 σ_79 h_79 => ?_)
            obtain ⟨rfl, a1, a2, a3, a4, a5, a6, a7, a8, a9⟩ := h_79
            refine x_iconst (v := 1) dX7_readStreet_82 (by decide) ?_
            exact s_zret dX7_readStreet_83 rfl (by first | exact Or.inl rfl | exact Or.inr rfl | assumption) (⟨rfl, r4.add a1 a2 a3 a4 a5 a6 a7 a8 a9 (by omega)⟩)
          · rw [if_pos b3]
            refine x_istore dX7_readStreet_62 (Nat.le_of_ble_eq_true rfl) rfl ?_
            refine x_iload dX7_readStreet_64 rfl ?_
            refine x_iconst (v := -1) dX7_readStreet_66 (by decide) ?_
            refine x_icmp_ne (tgt := 72) dX7_readStreet_67 (by decide) (fun c_67 => (absurd rfl c_67)) (fun c_67 => ?_)
            refine x_iconst (v := 0) dX7_readStreet_70 (by decide) ?_
            exact s_zret dX7_readStreet_71 rfl (by first | exact Or.inl rfl | exact Or.inr rfl | assumption) (⟨rfl, r3.fs⟩)
        · rw [if_pos b2]
          refine x_istore dX7_readStreet_44 (Nat.le_of_ble_eq_true rfl) rfl ?_
          refine x_iload dX7_readStreet_46 rfl ?_
          refine x_iconst (v := -1) dX7_readStreet_48 (by decide) ?_
          refine x_icmp_ne (tgt := 54) dX7_readStreet_49 (by decide) (fun c_49 => (absurd rfl c_49)) (fun c_49 => ?_)
          refine x_iconst (v := 0) dX7_readStreet_52 (by decide) ?_
          exact s_zret dX7_readStreet_53 rfl (by first | exact Or.inl rfl | exact Or.inr rfl | assumption) (⟨rfl, r2.fs⟩)
      · rw [if_pos b1]
        refine x_istore_n dX7_readStreet_28 (Nat.le_of_ble_eq_true rfl) rfl ?_
        refine x_iload_n dX7_readStreet_29 rfl ?_
        refine x_iconst (v := -1) dX7_readStreet_30 (by decide) ?_
        refine x_icmp_ne (tgt := 36) dX7_readStreet_31 (by decide) (fun c_31 => (absurd rfl c_31)) (fun c_31 => ?_)
        refine x_iconst (v := 0) dX7_readStreet_34 (by decide) ?_
        exact s_zret dX7_readStreet_35 rfl (by first | exact Or.inl rfl | exact Or.inr rfl | assumption) (⟨rfl, r1.fs⟩)

theorem RS.tilt {len : Nat} {c : Nat → Nat} {σ0 σ : Sg} {s a b : Nat} {p : PL} (h : RS len c σ0 σ s p) (ha : a < p.1) : RS len c σ0 (sg σ 14 a (nI b)) s (tlP p a b) := by
  obtain ⟨h1, h2, h3, h4, h5, h6, h7, h8, h9⟩ := h
  refine ⟨⟨h1.1, h1.2.1, h1.2.2⟩, h2, h3, h4, h5, h6, ?_, h8, fun c x y => by rw [sg_n _ _ _ (by omega)]; exact h9 c x y⟩
  have g := h7
  unfold plP at g
  unfold tlP
  rw [← g]
  show (p.1, σ 9 6, σ 9 7, tr p.1 (σ 10), tr p.1 (σ 11), tr p.1 (σ 12), tr p.1 (σ 13), tr p.1 (sg σ 14 a (nI b) 14)) = _
  rw [sg_row, tr_upd ha]
theorem rdB_in {len s n : Nat} {c : Nat → Nat} {but : Int32} (h : rdB len c s 0 (nI n - 1) but = true) (hn : n ≤ 8) : rdV len c s < n ∧ ¬ nI (rdV len c s) = but := by
  have h99 := rdV_99 h
  unfold rdB at h
  simp only [Bool.and_eq_true, decide_eq_true_eq] at h
  obtain ⟨h1, h2, h3⟩ := h
  obtain ⟨g1, g2, g3⟩ := of_decide_eq_true h3
  refine ⟨?_, g3⟩
  rcases Nat.eq_zero_or_pos n with q | q
  · subst q
    exact absurd (Int32.lt_of_lt_of_le (by decide) (nI_pos' (n := rdV len c s) (by omega))) g2
  · obtain ⟨m, rfl⟩ : ∃ m, n = m + 1 := ⟨n - 1, by omega⟩
    rw [nI_pred] at g2
    have h99' : nuF c s (tkE len c s - s) ≤ 99 := h99
    have : ¬ m < rdV len c s := fun z => g2 (nI_lt z (by omega))
    omega
set_option maxRecDepth 100000 in
theorem k_readSlope (σ0 σ : Sg) {len s : Nat} {c : Nat → Nat} {p : PL} (h : RS len c σ0 σ s p) : Cm 3 YX7_readSlope [.ref 1, .ref 9] σ (fun v σ' => RSF len c σ0 σ' v (slF len c p s)) := by
  refine Cm_of (by decide +kernel) (Nat.le_of_ble_eq_true rfl) ?_
  unfold slF
  have h8 := h.2.2.2.2.2.1
  have hm1 : ∀ m : Nat, m < 200 → ¬ nI m = -1 := fun m hm z => by have := nI_pos' (n := m) (by omega); rw [z] at this; exact absurd this (by decide)
  refine x_aload_n dX7_readSlope_0 rfl ?_
  refine s_callV dX7_readSlope_1 (k_stepR h) rfl w_X7_step lmX7_34 im_X7_step se_X7_step rfl (rfl) rfl (Nat.le_of_ble_eq_true rfl) rfl (by decide) (fun v_1 σ_1 h_1 => ?_)
  obtain ⟨rfl, rfl⟩ := h_1
  have r1 := h.mv
  refine x_aload_n dX7_readSlope_4 rfl ?_
  refine x_iconst (v := 0) dX7_readSlope_5 (by decide) ?_
  refine x_aload_n dX7_readSlope_6 rfl ?_
  refine s_getiN (ci := 3) (k := 5) (N := 8) (C := RX3) (T := TX3) dX7_readSlope_7 lfX7_98 inX3 rfl (by decide) (rfl) rfl ?_
  refine x_iconst (v := 1) dX7_readSlope_10 (by decide) ?_
  refine x_isub dX7_readSlope_11 ?_
  rw [r1.2.2.2.2.1]
  refine x_iconst (v := -1) dX7_readSlope_12 (by decide) ?_
  refine s_callV dX7_readSlope_13 (k_rnR r1 0 (nI p.1 - 1) (-1)) rfl w_X7_readNumber lmX7_73 im_X7_readNumber se_X7_readNumber rfl (rfl) rfl (Nat.le_of_ble_eq_true rfl) rfl (by decide) (fun v_13 σ_13 h_13 => ?_)
  skip
  rcases h_13 with ⟨b1, rfl, rfl⟩ | ⟨b1, rfl, rfl⟩
  · rw [if_neg (by rw [b1]; decide)]
    have r2 := r1.mv
    have d1 := rdB_in b1 h8
    refine x_istore_n dX7_readSlope_16 (Nat.le_of_ble_eq_true rfl) rfl ?_
    refine x_iload_n dX7_readSlope_17 rfl ?_
    refine x_iconst (v := -1) dX7_readSlope_18 (by decide) ?_
    refine x_icmp_ne (tgt := 24) dX7_readSlope_19 (by decide) (fun c_19 => ?_) (fun c_19 => (absurd c_19 (hm1 _ (by omega))))
    refine x_aload_n dX7_readSlope_24 rfl ?_
    refine x_iconst (v := 0) dX7_readSlope_25 (by decide) ?_
    refine x_aload_n dX7_readSlope_26 rfl ?_
    refine s_getiN (ci := 3) (k := 5) (N := 8) (C := RX3) (T := TX3) dX7_readSlope_27 lfX7_98 inX3 rfl (by decide) (rfl) rfl ?_
    refine x_iconst (v := 1) dX7_readSlope_30 (by decide) ?_
    refine x_isub dX7_readSlope_31 ?_
    rw [r2.2.2.2.2.1]
    refine x_iload_n dX7_readSlope_32 rfl ?_
    refine s_callV dX7_readSlope_33 (k_rnR r2 0 (nI p.1 - 1) (nI (rdV len c (nxF len c s)))) rfl w_X7_readNumber lmX7_73 im_X7_readNumber se_X7_readNumber rfl (rfl) rfl (Nat.le_of_ble_eq_true rfl) rfl (by decide) (fun v_33 σ_33 h_33 => ?_)
    skip
    rcases h_33 with ⟨b2, rfl, rfl⟩ | ⟨b2, rfl, rfl⟩
    · rw [if_neg (by rw [b2]; decide)]
      have r3 := r2.mv
      have d2 := rdB_in b2 h8
      refine x_istore_n dX7_readSlope_36 (Nat.le_of_ble_eq_true rfl) rfl ?_
      refine x_iload_n dX7_readSlope_37 rfl ?_
      refine x_iconst (v := -1) dX7_readSlope_38 (by decide) ?_
      refine x_icmp_ne (tgt := 44) dX7_readSlope_39 (by decide) (fun c_39 => ?_) (fun c_39 => (absurd c_39 (hm1 _ (by omega))))
      refine x_aload_n dX7_readSlope_44 rfl ?_
      refine x_iload_n dX7_readSlope_45 rfl ?_
      refine x_iload_n dX7_readSlope_46 rfl ?_
      refine s_callV dX7_readSlope_47 (k_pltilt _ (n := p.1) r3.2.2.2.2.1 h8 d1.1 d2.1) rfl w_X3_tilt lmX7_105 im_X3_tilt se_X3_tilt rfl (rfl) rfl (Nat.le_of_ble_eq_true rfl) rfl (by decide) (fun v_47 σ_47 h_47 => ?_)
      obtain ⟨rfl, rfl⟩ := h_47
      refine x_iconst (v := 1) dX7_readSlope_50 (by decide) ?_
      exact s_zret dX7_readSlope_51 rfl (by first | exact Or.inl rfl | exact Or.inr rfl | assumption) (⟨rfl, r3.tilt d1.1⟩)
    · rw [if_pos b2]
      refine x_istore_n dX7_readSlope_36 (Nat.le_of_ble_eq_true rfl) rfl ?_
      refine x_iload_n dX7_readSlope_37 rfl ?_
      refine x_iconst (v := -1) dX7_readSlope_38 (by decide) ?_
      refine x_icmp_ne (tgt := 44) dX7_readSlope_39 (by decide) (fun c_39 => (absurd rfl c_39)) (fun c_39 => ?_)
      refine x_iconst (v := 0) dX7_readSlope_42 (by decide) ?_
      exact s_zret dX7_readSlope_43 rfl (by first | exact Or.inl rfl | exact Or.inr rfl | assumption) (⟨rfl, r2.fs⟩)
  · rw [if_pos b1]
    refine x_istore_n dX7_readSlope_16 (Nat.le_of_ble_eq_true rfl) rfl ?_
    refine x_iload_n dX7_readSlope_17 rfl ?_
    refine x_iconst (v := -1) dX7_readSlope_18 (by decide) ?_
    refine x_icmp_ne (tgt := 24) dX7_readSlope_19 (by decide) (fun c_19 => (absurd rfl c_19)) (fun c_19 => ?_)
    refine x_iconst (v := 0) dX7_readSlope_22 (by decide) ?_
    exact s_zret dX7_readSlope_23 rfl (by first | exact Or.inl rfl | exact Or.inr rfl | assumption) (⟨rfl, r1.fs⟩)
