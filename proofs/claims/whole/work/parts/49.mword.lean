/-! ===== RainBallotModel's text: words and numbers ===== -/

theorem tkE_sm {len : Nat} {c : Nat → Nat} {s : Nat} (h : smB len c s = true) : s < tkE len c s ∧ ∀ j, s ≤ j → j < tkE len c s → isS (c j) = true := by
  have e : tkE len c s = rnF (smB len c) len s := by unfold tkE; rw [sm_dg h, if_neg (by decide), if_pos h]
  rw [e]
  refine ⟨?_, fun j h1 h2 => ?_⟩
  · rw [rn_step smB_lt h]
    have := rnF_ge (smB len c) len (s + 1)
    omega
  · have := rnF_all len s j h1 h2
    unfold smB at this
    simp at this
    exact this.2
theorem xw_f {i j : Nat} (hi : i < 8) (hj : j < 7) : (j < xlen.getD i 0 → 97 ≤ xwc i j ∧ xwc i j ≤ 122) ∧ (¬ j < xlen.getD i 0 → xwc i j = 0) := by
  have : ∀ i, i < 8 → ∀ j, j < 7 → (j < xlen.getD i 0 → 97 ≤ xwc i j ∧ xwc i j ≤ 122) ∧ (¬ j < xlen.getD i 0 → xwc i j = 0) := by decide
  exact this i hi j hj
def pwF (c : Nat → Nat) (s t i k : Nat) : Bool := decide (if s + k < t then c (s + k) = xwc i k else xwc i k = 0)
theorem pw_wd {len : Nat} {c : Nat → Nat} {s i : Nat} (hi : i < 8) (h : smB len c s = true) (h8 : tkE len c s - s < 8) : alB (pwF c s (tkE len c s) i) 7 = wdF c s (tkE len c s) i := by
  obtain ⟨h1, h2⟩ := tkE_sm h
  obtain ⟨x3, x8⟩ := xlen_8 hi
  have xf := fun j hj => xw_f (i := i) (j := j) hi hj
  generalize tkE len c s = t at *
  have e : alB (pwF c s t i) 7 = true ↔ wdF c s t i = true := by
    unfold wdF
    rw [Bool.and_eq_true, decide_eq_true_iff, alB_iff, alB_iff]
    constructor
    · intro hall
      have hL : t - s = xlen.getD i 0 := by
        rcases Nat.lt_trichotomy (t - s) (xlen.getD i 0) with q | q | q
        · have h3 := of_decide_eq_true (hall (t - s) (by omega))
          rw [if_neg (by omega)] at h3
          have := (xf (t - s) (by omega)).1 q
          omega
        · exact q
        · have h3 := of_decide_eq_true (hall (xlen.getD i 0) (by omega))
          rw [if_pos (by omega)] at h3
          have h4 := of_decide_eq_true (h2 (s + xlen.getD i 0) (by omega) (by omega))
          have := (xf (xlen.getD i 0) (by omega)).2 (by omega)
          omega
      refine ⟨hL, fun j hj => ?_⟩
      have h3 := of_decide_eq_true (hall j (by omega))
      rw [if_pos (by omega)] at h3
      exact decide_eq_true h3
    · intro ⟨hL, hall⟩ j hj
      refine decide_eq_true ?_
      by_cases q : s + j < t
      · rw [if_pos q]; exact of_decide_eq_true (hall j (by omega))
      · rw [if_neg q]; exact (xf j hj).2 (by omega)
  cases a : alB (pwF c s t i) 7 <;> cases b : wdF c s t i <;> simp_all
theorem wd_sm {len : Nat} {c : Nat → Nat} {s i : Nat} (hi : i < 8) (hs : s ≤ len) (h : wdF c s (tkE len c s) i = true) : smB len c s = true ∧ tkE len c s - s < 8 := by
  unfold wdF at h
  rw [Bool.and_eq_true, decide_eq_true_iff, alB_iff] at h
  obtain ⟨h1, h2⟩ := h
  obtain ⟨x3, x8⟩ := xlen_8 hi
  have hl := tkE_le (c := c) hs
  have h3 := of_decide_eq_true (h2 0 (by omega))
  have h4 := (xw_f (i := i) (j := 0) hi (by omega)).1 (by omega)
  rw [Nat.add_zero] at h3
  refine ⟨?_, by omega⟩
  unfold smB isS
  rw [decide_eq_true (show s < len by omega), decide_eq_true (show 97 ≤ c s ∧ c s ≤ 122 by omega)]
  rfl
theorem so_1 {len : Nat} {c : Nat → Nat} {s : Nat} : soF len c s = 1 ↔ smB len c s = true := by
  unfold soF
  by_cases h0 : s < len
  · rw [if_neg (fun z => z h0)]
    by_cases h1 : smB len c s = true
    · rw [if_pos h1]; exact ⟨fun _ => h1, fun _ => rfl⟩
    · rw [if_neg h1]; refine ⟨fun z => ?_, fun z => absurd z h1⟩; split at z <;> exact absurd z (by decide)
  · rw [if_pos h0]; exact ⟨fun z => absurd z (by decide), fun z => absurd (smB_lt s z) h0⟩
theorem so_2 {len : Nat} {c : Nat → Nat} {s : Nat} : soF len c s = 2 ↔ dgB len c s = true := by
  unfold soF
  by_cases h0 : s < len
  · rw [if_neg (fun z => z h0)]
    by_cases h1 : smB len c s = true
    · rw [if_pos h1, sm_dg h1]; exact ⟨fun z => absurd z (by decide), fun z => Bool.noConfusion z⟩
    · rw [if_neg h1]
      by_cases h2 : dgB len c s = true
      · rw [if_pos h2]; exact ⟨fun _ => h2, fun _ => rfl⟩
      · rw [if_neg h2]; exact ⟨fun z => absurd z (by decide), fun z => absurd z h2⟩
  · rw [if_pos h0]; exact ⟨fun z => absurd z (by decide), fun z => absurd (dgB_lt s z) h0⟩
theorem so_0 {len : Nat} {c : Nat → Nat} {s : Nat} : soF len c s = 0 ↔ ¬ s < len := by
  unfold soF
  by_cases h0 : s < len
  · rw [if_neg (fun z => z h0)]
    refine ⟨fun z => ?_, fun z => absurd h0 z⟩
    split at z
    · exact absurd z (by decide)
    · split at z <;> exact absurd z (by decide)
  · rw [if_pos h0]; exact ⟨fun _ => h0, fun _ => rfl⟩

set_option maxRecDepth 100000 in
theorem l_due {i k : Nat} {τ : Sg} {R : Option Value → xM → Prop} {V8 V10 : Value} (hk : k < 7) (key : Ex (YX9_isWord, 0, xB0, none) 108 [.ref 81, .int (nI (xwc i 0)), .int (nI (xwc i 1)), .int (nI (xwc i 2)), .int (nI (xwc i 3)), .int (nI (xwc i 4)), .int (nI (xwc i 5)), .int (nI (xwc i 6)), V8, .int (nI k), V10] [.int (nI (xwc i k))] (xMs τ) R) : Ex (YX9_isWord, 0, xB0, none) 44 [.ref 81, .int (nI (xwc i 0)), .int (nI (xwc i 1)), .int (nI (xwc i 2)), .int (nI (xwc i 3)), .int (nI (xwc i 4)), .int (nI (xwc i 5)), .int (nI (xwc i 6)), V8, .int (nI k), V10] [] (xMs τ) R := by
  have h7 : k = 0 ∨ k = 1 ∨ k = 2 ∨ k = 3 ∨ k = 4 ∨ k = 5 ∨ k = 6 := by omega
  rcases h7 with rfl | rfl | rfl | rfl | rfl | rfl | rfl
  · skip
    refine x_iload dX9_isWord_44 rfl ?_
    refine x_if_ne (tgt := 53) dX9_isWord_46 (by decide) (fun c_46 => (absurd rfl c_46)) (fun c_46 => ?_)
    refine x_iload_n dX9_isWord_49 rfl ?_
    refine x_goto (tgt := 108) dX9_isWord_50 (by decide) ?_
    exact key
  · skip
    refine x_iload dX9_isWord_44 rfl ?_
    refine x_if_ne (tgt := 53) dX9_isWord_46 (by decide) (fun c_46 => ?_) (fun c_46 => (absurd c_46 (by decide)))
    refine x_iload dX9_isWord_53 rfl ?_
    refine x_iconst (v := 1) dX9_isWord_55 (by decide) ?_
    refine x_icmp_ne (tgt := 63) dX9_isWord_56 (by decide) (fun c_56 => (absurd rfl c_56)) (fun c_56 => ?_)
    refine x_iload_n dX9_isWord_59 rfl ?_
    refine x_goto (tgt := 108) dX9_isWord_60 (by decide) ?_
    exact key
  · skip
    refine x_iload dX9_isWord_44 rfl ?_
    refine x_if_ne (tgt := 53) dX9_isWord_46 (by decide) (fun c_46 => ?_) (fun c_46 => (absurd c_46 (by decide)))
    refine x_iload dX9_isWord_53 rfl ?_
    refine x_iconst (v := 1) dX9_isWord_55 (by decide) ?_
    refine x_icmp_ne (tgt := 63) dX9_isWord_56 (by decide) (fun c_56 => ?_) (fun c_56 => (absurd c_56 (by decide)))
    refine x_iload dX9_isWord_63 rfl ?_
    refine x_iconst (v := 2) dX9_isWord_65 (by decide) ?_
    refine x_icmp_ne (tgt := 73) dX9_isWord_66 (by decide) (fun c_66 => (absurd rfl c_66)) (fun c_66 => ?_)
    refine x_iload_n dX9_isWord_69 rfl ?_
    refine x_goto (tgt := 108) dX9_isWord_70 (by decide) ?_
    exact key
  · skip
    refine x_iload dX9_isWord_44 rfl ?_
    refine x_if_ne (tgt := 53) dX9_isWord_46 (by decide) (fun c_46 => ?_) (fun c_46 => (absurd c_46 (by decide)))
    refine x_iload dX9_isWord_53 rfl ?_
    refine x_iconst (v := 1) dX9_isWord_55 (by decide) ?_
    refine x_icmp_ne (tgt := 63) dX9_isWord_56 (by decide) (fun c_56 => ?_) (fun c_56 => (absurd c_56 (by decide)))
    refine x_iload dX9_isWord_63 rfl ?_
    refine x_iconst (v := 2) dX9_isWord_65 (by decide) ?_
    refine x_icmp_ne (tgt := 73) dX9_isWord_66 (by decide) (fun c_66 => ?_) (fun c_66 => (absurd c_66 (by decide)))
    refine x_iload dX9_isWord_73 rfl ?_
    refine x_iconst (v := 3) dX9_isWord_75 (by decide) ?_
    refine x_icmp_ne (tgt := 84) dX9_isWord_76 (by decide) (fun c_76 => (absurd rfl c_76)) (fun c_76 => ?_)
    refine x_iload dX9_isWord_79 rfl ?_
    refine x_goto (tgt := 108) dX9_isWord_81 (by decide) ?_
    exact key
  · skip
    refine x_iload dX9_isWord_44 rfl ?_
    refine x_if_ne (tgt := 53) dX9_isWord_46 (by decide) (fun c_46 => ?_) (fun c_46 => (absurd c_46 (by decide)))
    refine x_iload dX9_isWord_53 rfl ?_
    refine x_iconst (v := 1) dX9_isWord_55 (by decide) ?_
    refine x_icmp_ne (tgt := 63) dX9_isWord_56 (by decide) (fun c_56 => ?_) (fun c_56 => (absurd c_56 (by decide)))
    refine x_iload dX9_isWord_63 rfl ?_
    refine x_iconst (v := 2) dX9_isWord_65 (by decide) ?_
    refine x_icmp_ne (tgt := 73) dX9_isWord_66 (by decide) (fun c_66 => ?_) (fun c_66 => (absurd c_66 (by decide)))
    refine x_iload dX9_isWord_73 rfl ?_
    refine x_iconst (v := 3) dX9_isWord_75 (by decide) ?_
    refine x_icmp_ne (tgt := 84) dX9_isWord_76 (by decide) (fun c_76 => ?_) (fun c_76 => (absurd c_76 (by decide)))
    refine x_iload dX9_isWord_84 rfl ?_
    refine x_iconst (v := 4) dX9_isWord_86 (by decide) ?_
    refine x_icmp_ne (tgt := 95) dX9_isWord_87 (by decide) (fun c_87 => (absurd rfl c_87)) (fun c_87 => ?_)
    refine x_iload dX9_isWord_90 rfl ?_
    refine x_goto (tgt := 108) dX9_isWord_92 (by decide) ?_
    exact key
  · skip
    refine x_iload dX9_isWord_44 rfl ?_
    refine x_if_ne (tgt := 53) dX9_isWord_46 (by decide) (fun c_46 => ?_) (fun c_46 => (absurd c_46 (by decide)))
    refine x_iload dX9_isWord_53 rfl ?_
    refine x_iconst (v := 1) dX9_isWord_55 (by decide) ?_
    refine x_icmp_ne (tgt := 63) dX9_isWord_56 (by decide) (fun c_56 => ?_) (fun c_56 => (absurd c_56 (by decide)))
    refine x_iload dX9_isWord_63 rfl ?_
    refine x_iconst (v := 2) dX9_isWord_65 (by decide) ?_
    refine x_icmp_ne (tgt := 73) dX9_isWord_66 (by decide) (fun c_66 => ?_) (fun c_66 => (absurd c_66 (by decide)))
    refine x_iload dX9_isWord_73 rfl ?_
    refine x_iconst (v := 3) dX9_isWord_75 (by decide) ?_
    refine x_icmp_ne (tgt := 84) dX9_isWord_76 (by decide) (fun c_76 => ?_) (fun c_76 => (absurd c_76 (by decide)))
    refine x_iload dX9_isWord_84 rfl ?_
    refine x_iconst (v := 4) dX9_isWord_86 (by decide) ?_
    refine x_icmp_ne (tgt := 95) dX9_isWord_87 (by decide) (fun c_87 => ?_) (fun c_87 => (absurd c_87 (by decide)))
    refine x_iload dX9_isWord_95 rfl ?_
    refine x_iconst (v := 5) dX9_isWord_97 (by decide) ?_
    refine x_icmp_ne (tgt := 106) dX9_isWord_98 (by decide) (fun c_98 => (absurd rfl c_98)) (fun c_98 => ?_)
    refine x_iload dX9_isWord_101 rfl ?_
    refine x_goto (tgt := 108) dX9_isWord_103 (by decide) ?_
    exact key
  · skip
    refine x_iload dX9_isWord_44 rfl ?_
    refine x_if_ne (tgt := 53) dX9_isWord_46 (by decide) (fun c_46 => ?_) (fun c_46 => (absurd c_46 (by decide)))
    refine x_iload dX9_isWord_53 rfl ?_
    refine x_iconst (v := 1) dX9_isWord_55 (by decide) ?_
    refine x_icmp_ne (tgt := 63) dX9_isWord_56 (by decide) (fun c_56 => ?_) (fun c_56 => (absurd c_56 (by decide)))
    refine x_iload dX9_isWord_63 rfl ?_
    refine x_iconst (v := 2) dX9_isWord_65 (by decide) ?_
    refine x_icmp_ne (tgt := 73) dX9_isWord_66 (by decide) (fun c_66 => ?_) (fun c_66 => (absurd c_66 (by decide)))
    refine x_iload dX9_isWord_73 rfl ?_
    refine x_iconst (v := 3) dX9_isWord_75 (by decide) ?_
    refine x_icmp_ne (tgt := 84) dX9_isWord_76 (by decide) (fun c_76 => ?_) (fun c_76 => (absurd c_76 (by decide)))
    refine x_iload dX9_isWord_84 rfl ?_
    refine x_iconst (v := 4) dX9_isWord_86 (by decide) ?_
    refine x_icmp_ne (tgt := 95) dX9_isWord_87 (by decide) (fun c_87 => ?_) (fun c_87 => (absurd c_87 (by decide)))
    refine x_iload dX9_isWord_95 rfl ?_
    refine x_iconst (v := 5) dX9_isWord_97 (by decide) ?_
    refine x_icmp_ne (tgt := 106) dX9_isWord_98 (by decide) (fun c_98 => ?_) (fun c_98 => (absurd c_98 (by decide)))
    refine x_iload dX9_isWord_106 rfl ?_
    exact key
set_option maxRecDepth 100000 in
set_option maxHeartbeats 1000000 in
theorem k_mword (σ : Sg) {len s i : Nat} {c : Nat → Nat} (h : TK len c σ s) (hi : i < 8) : Cm 0 YX9_isWord [.ref 81, .int (nI (xwc i 0)), .int (nI (xwc i 1)), .int (nI (xwc i 2)), .int (nI (xwc i 3)), .int (nI (xwc i 4)), .int (nI (xwc i 5)), .int (nI (xwc i 6))] σ (fun v σ' => v = some (.int (bI (wdF c s (tkE len c s) i))) ∧ σ' = σ) := by
  refine Cm_of (by decide +kernel) (Nat.le_of_ble_eq_true rfl) ?_
  obtain ⟨hT, hs, h13, h11, h12, h14⟩ := h
  have hl := hT.2.1
  have hst := tkE_ge len c s
  have htl := tkE_le (c := c) hs
  have hwd : ∀ b : Bool, (smB len c s = true → tkE len c s - s < 8 → b = true) → (b = true → smB len c s = true ∧ tkE len c s - s < 8) → (if b = true then alB (pwF c s (tkE len c s) i) 7 else false) = wdF c s (tkE len c s) i := fun b h1 h2 => by
    cases hb : b with
    | true => rw [if_pos rfl]; exact pw_wd hi (h2 hb).1 (h2 hb).2
    | false =>
      rw [if_neg (by decide)]
      cases hw : wdF c s (tkE len c s) i with
      | false => rfl
      | true => have := wd_sm hi hs hw; rw [h1 this.1 this.2] at hb; exact Bool.noConfusion hb
  have xf := fun j hj => xw_f (i := i) (j := j) hi hj
  have x8 := (xlen_8 hi).2
  have hsub : nI (tkE len c s) - nI s = nI (tkE len c s - s) := nI_sub hst
  have hso : soF len c s = 1 ↔ smB len c s = true := so_1
  generalize tkE len c s = t at *
  have loop : ∀ (j k : Nat) (b : Bool) (V10 : Value), k + j = 7 → Ex (YX9_isWord, 0, xB0, none) 32 [.ref 81, .int (nI (xwc i 0)), .int (nI (xwc i 1)), .int (nI (xwc i 2)), .int (nI (xwc i 3)), .int (nI (xwc i 4)), .int (nI (xwc i 5)), .int (nI (xwc i 6)), .int (bI (b && alB (pwF c s t i) k)), .int (nI k), V10] [] (xMs σ) (xQ (fun v σ' => v = some (.int (bI (b && alB (pwF c s t i) 7))) ∧ σ' = σ)) := by
    intro j
    induction j with
    | zero =>
      intro k b V10 hk
      obtain rfl : k = 7 := by omega
      refine x_iload dX9_isWord_32 rfl ?_
      refine x_bipush (v := 7) dX9_isWord_34 (by decide) ?_
      refine x_icmp_ge (tgt := 167) dX9_isWord_36 (by decide) (fun c_36 => ?_) (fun c_36 => (absurd (by decide) c_36))
      refine x_iload dX9_isWord_167 rfl ?_
      exact s_zret dX9_isWord_169 rfl (by first | exact Or.inl rfl | exact Or.inr rfl | assumption | exact bI_01 _) (⟨rfl, rfl⟩)
    | succ j ih =>
      intro k b V10 hk
      have hk7 : k < 7 := by omega
      have stop : bI (b && alB (pwF c s t i) k) = 0 → bI (b && alB (pwF c s t i) 7) = bI (b && alB (pwF c s t i) k) := fun z => by
        have z2 := bI_0.mp z
        rw [z2]
        cases hb : b with
        | false => rfl
        | true =>
          rw [hb, Bool.true_and] at z2
          rw [Bool.true_and]
          cases q : alB (pwF c s t i) 7 with
          | false => rfl
          | true => exact absurd ((alB_iff k).mpr (fun j hj => (alB_iff 7).mp q j (by omega))) (by rw [z2]; decide)
      have step : ¬ bI (b && alB (pwF c s t i) k) = 0 → ∀ (x : Int32) (V10 : Value), x = bI (pwF c s t i k) → Ex (YX9_isWord, 0, xB0, none) 32 [.ref 81, .int (nI (xwc i 0)), .int (nI (xwc i 1)), .int (nI (xwc i 2)), .int (nI (xwc i 3)), .int (nI (xwc i 4)), .int (nI (xwc i 5)), .int (nI (xwc i 6)), .int x, .int (nI (k + 1)), V10] [] (xMs σ) (xQ (fun v σ' => v = some (.int (bI (b && alB (pwF c s t i) 7))) ∧ σ' = σ)) := fun z x V10 hx => by
        have hih := ih (k + 1) b V10 (by omega)
        rw [show (b && alB (pwF c s t i) (k + 1)) = pwF c s t i k from by
          show (b && (alB (pwF c s t i) k && pwF c s t i k)) = _
          rw [← Bool.and_assoc, bI_n z, Bool.true_and]] at hih
        rw [hx]
        exact hih
      have a0 : nI s + nI k = nI (s + k) := nI_add s k
      have hx8 : xwc i k < 256 := by
        rcases Nat.lt_or_ge k (xlen.getD i 0) with q | q
        · have := (xf k hk7).1 q; omega
        · have := (xf k hk7).2 (by omega); omega
      have p1 : s + k < t → nI (c (s + k)) = nI (xwc i k) → (1 : Int32) = bI (pwF c s t i k) := fun q z => by
        rw [show pwF c s t i k = true from decide_eq_true (by rw [if_pos q]; exact (nI_eq (by have := (hT.2.2 (s + k) (by omega)).2; omega) (by omega)).mp z)]; rfl
      have p2 : s + k < t → ¬ nI (c (s + k)) = nI (xwc i k) → (0 : Int32) = bI (pwF c s t i k) := fun q z => by
        rw [show pwF c s t i k = false from decide_eq_false (by rw [if_pos q]; exact fun y => z (by rw [y]))]; rfl
      have p3 : ¬ s + k < t → nI (xwc i k) = 0 → (1 : Int32) = bI (pwF c s t i k) := fun q z => by
        rw [show pwF c s t i k = true from decide_eq_true (by rw [if_neg q]; exact (nI_eq (b := 0) (by omega) (by decide)).mp z)]; rfl
      have p4 : ¬ s + k < t → ¬ nI (xwc i k) = 0 → (0 : Int32) = bI (pwF c s t i k) := fun q z => by
        rw [show pwF c s t i k = false from decide_eq_false (by rw [if_neg q]; exact fun y => z (by rw [y]; rfl))]; rfl
      have q1 : nI t ≤ nI (s + k) → ¬ s + k < t := fun z y => absurd z (nI_ge y (by omega))
      have q2 : ¬ nI t ≤ nI (s + k) → s + k < t := fun z => by
        rcases Nat.lt_or_ge (s + k) t with y | y
        · exact y
        · exact absurd (nI_le y (by omega)) z
      have key : ¬ bI (b && alB (pwF c s t i) k) = 0 → ∀ V8 V10, Ex (YX9_isWord, 0, xB0, none) 108 [.ref 81, .int (nI (xwc i 0)), .int (nI (xwc i 1)), .int (nI (xwc i 2)), .int (nI (xwc i 3)), .int (nI (xwc i 4)), .int (nI (xwc i 5)), .int (nI (xwc i 6)), V8, .int (nI k), V10] [.int (nI (xwc i k))] (xMs σ) (xQ (fun v σ' => v = some (.int (bI (b && alB (pwF c s t i) 7))) ∧ σ' = σ)) := by
        intro z V8 V10
        refine x_istore dX9_isWord_108 (Nat.le_of_ble_eq_true rfl) rfl ?_
        refine x_aload_n dX9_isWord_110 rfl ?_
        refine s_geti (ci := 9) (k := 13) (N := 20) (C := RX9) (T := TX9) dX9_isWord_111 lfX9_65 inX9 rfl (by decide) (rfl) rfl ?_
        refine x_iload dX9_isWord_114 rfl ?_
        refine x_iadd dX9_isWord_116 ?_
        refine x_aload_n dX9_isWord_117 rfl ?_
        refine s_geti (ci := 9) (k := 11) (N := 20) (C := RX9) (T := TX9) dX9_isWord_118 lfX9_58 inX9 rfl (by decide) (rfl) rfl ?_
        rw [h13, h11, a0]
        refine x_icmp_ge (tgt := 149) dX9_isWord_121 (by decide) (fun c_121 => ?_) (fun c_121 => ?_)
        · refine x_iload dX9_isWord_149 rfl ?_
          refine x_if_ne (tgt := 158) dX9_isWord_151 (by decide) (fun c_151 => ?_) (fun c_151 => ?_)
          · refine x_iconst (v := 0) dX9_isWord_158 (by decide) ?_
            refine x_istore dX9_isWord_159 (Nat.le_of_ble_eq_true rfl) rfl ?_
            refine s_iinc dX9_isWord_161 rfl (Nat.le_of_ble_eq_true rfl) rfl ?_
            refine x_goto (tgt := 32) dX9_isWord_164 (by decide) ?_
            first
              | exact step z _ _ (p1 hlt c_138)
              | exact step z _ _ (p2 hlt c_138)
              | exact step z _ _ (p3 (q1 c_121) c_151)
              | exact step z _ _ (p4 (q1 c_121) c_151)
          · refine x_iconst (v := 1) dX9_isWord_154 (by decide) ?_
            refine x_goto (tgt := 159) dX9_isWord_155 (by decide) ?_
            refine x_istore dX9_isWord_159 (Nat.le_of_ble_eq_true rfl) rfl ?_
            refine s_iinc dX9_isWord_161 rfl (Nat.le_of_ble_eq_true rfl) rfl ?_
            refine x_goto (tgt := 32) dX9_isWord_164 (by decide) ?_
            first
              | exact step z _ _ (p1 hlt c_138)
              | exact step z _ _ (p2 hlt c_138)
              | exact step z _ _ (p3 (q1 c_121) c_151)
              | exact step z _ _ (p4 (q1 c_121) c_151)
        · have hlt := q2 (by first | exact c_121 | exact Int32.not_le.mpr c_121)
          refine x_aload_n dX9_isWord_124 rfl ?_
          refine s_getr (ci := 9) (k := 0) (N := 20) (C := RX9) (T := TX9) dX9_isWord_125 lfX9_7 inX9 rfl (by decide) (rfl) rfl ?_
          refine x_aload_n dX9_isWord_128 rfl ?_
          refine s_geti (ci := 9) (k := 13) (N := 20) (C := RX9) (T := TX9) dX9_isWord_129 lfX9_65 inX9 rfl (by decide) (rfl) rfl ?_
          refine x_iload dX9_isWord_132 rfl ?_
          refine x_iadd dX9_isWord_134 ?_
          rw [h13, a0]
          refine s_iald dX9_isWord_135 (rfl) (hi := rfl) (hj := by omega) (hn := by decide) ?_
          refine x_iload dX9_isWord_136 rfl ?_
          rw [(hT.2.2 (s + k) (by omega)).1]
          refine x_icmp_ne (tgt := 145) dX9_isWord_138 (by decide) (fun c_138 => ?_) (fun c_138 => ?_)
          · refine x_iconst (v := 0) dX9_isWord_145 (by decide) ?_
            refine x_goto (tgt := 159) dX9_isWord_146 (by decide) ?_
            refine x_istore dX9_isWord_159 (Nat.le_of_ble_eq_true rfl) rfl ?_
            refine s_iinc dX9_isWord_161 rfl (Nat.le_of_ble_eq_true rfl) rfl ?_
            refine x_goto (tgt := 32) dX9_isWord_164 (by decide) ?_
            first
              | exact step z _ _ (p1 hlt c_138)
              | exact step z _ _ (p2 hlt c_138)
              | exact step z _ _ (p3 (q1 c_121) c_151)
              | exact step z _ _ (p4 (q1 c_121) c_151)
          · refine x_iconst (v := 1) dX9_isWord_141 (by decide) ?_
            refine x_goto (tgt := 159) dX9_isWord_142 (by decide) ?_
            refine x_istore dX9_isWord_159 (Nat.le_of_ble_eq_true rfl) rfl ?_
            refine s_iinc dX9_isWord_161 rfl (Nat.le_of_ble_eq_true rfl) rfl ?_
            refine x_goto (tgt := 32) dX9_isWord_164 (by decide) ?_
            first
              | exact step z _ _ (p1 hlt c_138)
              | exact step z _ _ (p2 hlt c_138)
              | exact step z _ _ (p3 (q1 c_121) c_151)
              | exact step z _ _ (p4 (q1 c_121) c_151)
      refine x_iload dX9_isWord_32 rfl ?_
      refine x_bipush (v := 7) dX9_isWord_34 (by decide) ?_
      refine x_icmp_ge (tgt := 167) dX9_isWord_36 (by decide) (fun c_36 => (absurd c_36 (show ¬ nI 7 ≤ nI k from nI_ge hk7 (by decide)))) (fun c_36 => ?_)
      refine x_iload dX9_isWord_39 rfl ?_
      refine x_if_eq (tgt := 167) dX9_isWord_41 (by decide) (fun c_41 => ?_) (fun c_41 => ?_)
      · refine x_iload dX9_isWord_167 rfl ?_
        exact s_zret dX9_isWord_169 rfl (by first | exact Or.inl rfl | exact Or.inr rfl | assumption | exact bI_01 _) (⟨by rw [stop c_41], rfl⟩)
      · exact l_due hk7 (key c_41 _ _)
  have fin : ∀ b : Bool, (smB len c s = true → t - s < 8 → b = true) → (b = true → smB len c s = true ∧ t - s < 8) → ∀ x : Int32, x = bI b → Ex (YX9_isWord, 0, xB0, none) 32 [.ref 81, .int (nI (xwc i 0)), .int (nI (xwc i 1)), .int (nI (xwc i 2)), .int (nI (xwc i 3)), .int (nI (xwc i 4)), .int (nI (xwc i 5)), .int (nI (xwc i 6)), .int x, .int (nI 0), .null] [] (xMs σ) (xQ (fun v σ' => v = some (.int (bI (wdF c s t i))) ∧ σ' = σ)) := fun b h1 h2 x hx => by
    have h := loop 7 0 b .null (by omega)
    rw [show (b && alB (pwF c s t i) 0) = b from Bool.and_true b, ← hx] at h
    have e := hwd b h1 h2
    rw [show (b && alB (pwF c s t i) 7) = wdF c s t i by rw [← e]; cases b <;> rfl] at h
    exact h
  refine x_aload_n dX9_isWord_0 rfl ?_
  refine s_geti (ci := 9) (k := 12) (N := 20) (C := RX9) (T := TX9) dX9_isWord_1 lfX9_75 inX9 rfl (by decide) (rfl) rfl ?_
  refine x_iconst (v := 1) dX9_isWord_4 (by decide) ?_
  rw [h12]
  refine x_icmp_ne (tgt := 26) dX9_isWord_5 (by decide) (fun c_5 => ?_) (fun c_5 => ?_)
  · refine x_iconst (v := 0) dX9_isWord_26 (by decide) ?_
    refine x_istore dX9_isWord_27 (Nat.le_of_ble_eq_true rfl) rfl ?_
    refine x_iconst (v := 0) dX9_isWord_29 (by decide) ?_
    refine x_istore dX9_isWord_30 (Nat.le_of_ble_eq_true rfl) rfl ?_
    first
      | exact fin true (fun _ _ => rfl) (fun _ => ⟨hso.mp c_5, (nI_ltI (b := 8) (by omega) (by decide)).mp (Int32.not_le.mp c_19)⟩) _ rfl
      | exact fin false (fun _ z => absurd c_19 (show ¬ nI 8 ≤ nI (t - s) from nI_ge z (by decide))) (fun z => Bool.noConfusion z) _ rfl
      | exact fin false (fun z _ => absurd (hso.mpr z) c_5) (fun z => Bool.noConfusion z) _ rfl
  · refine x_aload_n dX9_isWord_8 rfl ?_
    refine s_geti (ci := 9) (k := 11) (N := 20) (C := RX9) (T := TX9) dX9_isWord_9 lfX9_58 inX9 rfl (by decide) (rfl) rfl ?_
    refine x_aload_n dX9_isWord_12 rfl ?_
    refine s_geti (ci := 9) (k := 13) (N := 20) (C := RX9) (T := TX9) dX9_isWord_13 lfX9_65 inX9 rfl (by decide) (rfl) rfl ?_
    rw [h11, h13]
    refine x_isub dX9_isWord_16 ?_
    rw [hsub]
    refine x_bipush (v := 8) dX9_isWord_17 (by decide) ?_
    refine x_icmp_ge (tgt := 26) dX9_isWord_19 (by decide) (fun c_19 => ?_) (fun c_19 => ?_)
    · refine x_iconst (v := 0) dX9_isWord_26 (by decide) ?_
      refine x_istore dX9_isWord_27 (Nat.le_of_ble_eq_true rfl) rfl ?_
      refine x_iconst (v := 0) dX9_isWord_29 (by decide) ?_
      refine x_istore dX9_isWord_30 (Nat.le_of_ble_eq_true rfl) rfl ?_
      first
        | exact fin true (fun _ _ => rfl) (fun _ => ⟨hso.mp c_5, (nI_ltI (b := 8) (by omega) (by decide)).mp (Int32.not_le.mp c_19)⟩) _ rfl
        | exact fin false (fun _ z => absurd c_19 (show ¬ nI 8 ≤ nI (t - s) from nI_ge z (by decide))) (fun z => Bool.noConfusion z) _ rfl
        | exact fin false (fun z _ => absurd (hso.mpr z) c_5) (fun z => Bool.noConfusion z) _ rfl
    · refine x_iconst (v := 1) dX9_isWord_22 (by decide) ?_
      refine x_goto (tgt := 27) dX9_isWord_23 (by decide) ?_
      refine x_istore dX9_isWord_27 (Nat.le_of_ble_eq_true rfl) rfl ?_
      refine x_iconst (v := 0) dX9_isWord_29 (by decide) ?_
      refine x_istore dX9_isWord_30 (Nat.le_of_ble_eq_true rfl) rfl ?_
      first
        | exact fin true (fun _ _ => rfl) (fun _ => ⟨hso.mp c_5, (nI_ltI (b := 8) (by omega) (by decide)).mp (Int32.not_le.mp c_19)⟩) _ rfl
        | exact fin false (fun _ z => absurd c_19 (show ¬ nI 8 ≤ nI (t - s) from nI_ge z (by decide))) (fun z => Bool.noConfusion z) _ rfl
        | exact fin false (fun z _ => absurd (hso.mpr z) c_5) (fun z => Bool.noConfusion z) _ rfl
/-- frames of the model's reader: 81's 11 to 14, the draft -/
def F4 (σ0 σ : Sg) : Prop := (∀ i, ¬ (11 ≤ i ∧ i ≤ 14) → σ 81 i = σ0 81 i) ∧ ∀ c, c ≠ 81 → c ≠ 84 → σ c = σ0 c
theorem F4.tr {a b c : Sg} (h1 : F4 a b) (h2 : F4 b c) : F4 a c := ⟨fun i hi => by rw [h2.1 i hi]; exact h1.1 i hi, fun d hd he => by rw [h2.2 d hd he]; exact h1.2 d hd he⟩
theorem FK.f4 {a b : Sg} (h : FK a b) : F4 a b := ⟨h.1, fun c hc _ => h.2 c hc⟩
theorem F4_84 {σ : Sg} (f : FN) : F4 σ (sw σ 84 f) := ⟨fun i _ => by rw [sw_n _ _ (by decide)], fun c _ h => sw_n _ _ h⟩
theorem TM_F4 {σ0 σ : Sg} {len : Nat} {c : Nat → Nat} (h : TM σ0 len c) (f : F4 σ0 σ) : TM σ len c := ⟨by rw [f.1 1 (by omega)]; exact h.1, h.2.1, fun i hi => by rw [f.2 82 (by decide) (by decide)]; exact h.2.2 i hi⟩
theorem TK_84 {σ : Sg} {len s : Nat} {c : Nat → Nat} (h : TK len c σ s) (f : FN) : TK len c (sw σ 84 f) s := ⟨TM_F4 h.1 (F4_84 f), h.2.1, by rw [sw_n _ _ (by decide)]; exact h.2.2.1, by rw [sw_n _ _ (by decide)]; exact h.2.2.2.1, by rw [sw_n _ _ (by decide)]; exact h.2.2.2.2.1, by rw [sw_n _ _ (by decide)]; exact h.2.2.2.2.2⟩
theorem rd_va {len : Nat} {c : Nat → Nat} {s lo hi : Nat} (hs : s ≤ len) (hhi : hi ≤ 99) (hlo : lo ≤ 99) : rdB len c s (nI lo) (nI hi) (-1) = (decide (soF len c s = 2) && rgF (nI lo) (nI hi) (nI (vaF len c s))) := by
  unfold rdB vaF
  by_cases h : dgB len c s = true
  · rw [h, decide_eq_true (so_2.mpr h), Bool.true_and, Bool.true_and, if_pos rfl]
    unfold muF okN rgF
    by_cases h2 : tkE len c s - s ≤ 2
    · have h9 := nuF_2 h2 (fun j hj => (tkE_dg h).2 (s + j) (by omega) (by omega))
      rw [decide_eq_true h2, Bool.true_and, if_pos h2]
      refine decide_eq_decide.mpr ⟨fun z => ⟨z.1, z.2.1⟩, fun z => ⟨z.1, z.2, fun y => ?_⟩⟩
      have := nI_pos' (n := nuF c s (tkE len c s - s)) (by omega)
      rw [y] at this
      exact absurd this (by decide)
    · rw [decide_eq_false h2, Bool.false_and, if_neg h2]
      exact (decide_eq_false (fun z => z.2 (nI_lt (by omega) (by decide)))).symm
  · rw [decide_eq_false (fun z => h (so_2.mp z)), Bool.false_and]
    cases q : dgB len c s with
    | false => rfl
    | true => exact absurd q h
theorem va_rd {len : Nat} {c : Nat → Nat} {s : Nat} {lo hi but : Int32} (h : rdB len c s lo hi but = true) : vaF len c s = rdV len c s := by
  unfold rdB at h
  rw [Bool.and_eq_true, Bool.and_eq_true, decide_eq_true_iff] at h
  unfold vaF rdV muF
  rw [if_pos h.1, if_pos h.2.1]
set_option maxRecDepth 100000 in
theorem k_number (σ : Sg) {len e p lo hi : Nat} {c : Nat → Nat} (hT : TM σ len c) (he : e ≤ len) (h11 : σ 81 11 = nI e) (hp : p < 43) (hlo : lo ≤ 99) (hhi : hi ≤ 99) : Cm 3 YX9_number [.ref 81, .int (nI p), .int (nI lo), .int (nI hi)] σ (fun v σ' => v = some (.int (bI (rdB len c (tkS len c e) (nI lo) (nI hi) (-1)))) ∧ TK len c σ' (tkS len c e) ∧ F4 σ σ' ∧ σ' 84 = upd (σ 84) p (nI (vaF len c (tkS len c e)))) := by
  refine Cm_of (by decide +kernel) (Nat.le_of_ble_eq_true rfl) ?_
  rw [rd_va (tkS_le he) hhi hlo]
  refine x_aload_n dX9_number_0 rfl ?_
  refine s_callV dX9_number_1 (k_token σ hT he h11) rfl w_X9_token lmX9_81 im_X9_token se_X9_token rfl (rfl) rfl (Nat.le_of_ble_eq_true rfl) rfl (by decide) (fun v_1 σ_1 h_1 => ?_)
  obtain ⟨rfl, tk, fk⟩ := h_1
  have e14 := tk.2.2.2.2.2
  have e12 := tk.2.2.2.2.1
  have e84 : σ_1 84 = σ 84 := fk.2 84 (by decide)
  have go : TK len c (sg σ_1 84 p (nI (vaF len c (tkS len c e)))) (tkS len c e) ∧ F4 σ (sg σ_1 84 p (nI (vaF len c (tkS len c e)))) ∧ sg σ_1 84 p (nI (vaF len c (tkS len c e))) 84 = upd (σ 84) p (nI (vaF len c (tkS len c e))) := ⟨TK_84 tk _, fk.f4.tr (F4_84 _), by rw [sg_row, e84]⟩
  refine x_aload_n dX9_number_4 rfl ?_
  refine s_getr (ci := 9) (k := 3) (N := 20) (C := RX9) (T := TX9) dX9_number_5 lfX9_16 inX9 rfl (by decide) (rfl) rfl ?_
  refine x_iload_n dX9_number_8 rfl ?_
  refine x_aload_n dX9_number_9 rfl ?_
  refine s_geti (ci := 9) (k := 14) (N := 20) (C := RX9) (T := TX9) dX9_number_10 lfX9_78 inX9 rfl (by decide) (rfl) rfl ?_
  rw [e14]
  refine s_iast dX9_number_13 (rfl) (hi := rfl) (hj := by omega) (hn := by decide) ?_
  refine x_aload_n dX9_number_14 rfl ?_
  refine s_geti (ci := 9) (k := 12) (N := 20) (C := RX9) (T := TX9) dX9_number_15 lfX9_75 inX9 rfl (by decide) (rfl) rfl ?_
  refine x_iconst (v := 2) dX9_number_18 (by decide) ?_
  rw [show sg σ_1 84 p (nI (vaF len c (tkS len c e))) 81 12 = σ_1 81 12 from rfl, e12]
  refine x_icmp_ne (tgt := 38) dX9_number_19 (by decide) (fun c_19 => ?_) (fun c_19 => ?_)
  · refine x_iconst (v := 0) dX9_number_38 (by decide) ?_
    exact s_zret dX9_number_39 rfl (by first | exact Or.inl rfl | exact Or.inr rfl | assumption | exact bI_01 _) (by first
      | exact ⟨by rw [decide_eq_false c_19]; rfl, go⟩
      | exact ⟨by rw [bI_0.mp c_31, Bool.and_false]; rfl, go⟩
      | exact ⟨by rw [decide_eq_true c_19, bI_n c_31]; rfl, go⟩)
  · refine x_aload_n dX9_number_22 rfl ?_
    refine s_geti (ci := 9) (k := 14) (N := 20) (C := RX9) (T := TX9) dX9_number_23 lfX9_78 inX9 rfl (by decide) (rfl) rfl ?_
    refine x_iload_n dX9_number_26 rfl ?_
    refine x_iload_n dX9_number_27 rfl ?_
    rw [show sg σ_1 84 p (nI (vaF len c (tkS len c e))) 81 14 = σ_1 81 14 from rfl, e14]
    refine s_callS dX9_number_28 (k_in _ _ _ _) rfl w_X9_in lmX9_51 st_X9_in rfl (Nat.le_of_ble_eq_true rfl) rfl (by decide) (fun v_28 σ_28 h_28 => ?_)
    obtain ⟨rfl, z_28⟩ := h_28
    have z_28 := z_28.symm
    subst z_28
    refine x_if_eq (tgt := 38) dX9_number_31 (by decide) (fun c_31 => ?_) (fun c_31 => ?_)
    · refine x_iconst (v := 0) dX9_number_38 (by decide) ?_
      exact s_zret dX9_number_39 rfl (by first | exact Or.inl rfl | exact Or.inr rfl | assumption | exact bI_01 _) (by first
        | exact ⟨by rw [decide_eq_false c_19]; rfl, go⟩
        | exact ⟨by rw [bI_0.mp c_31, Bool.and_false]; rfl, go⟩
        | exact ⟨by rw [decide_eq_true c_19, bI_n c_31]; rfl, go⟩)
    · refine x_iconst (v := 1) dX9_number_34 (by decide) ?_
      refine x_goto (tgt := 39) dX9_number_35 (by decide) ?_
      exact s_zret dX9_number_39 rfl (by first | exact Or.inl rfl | exact Or.inr rfl | assumption | exact bI_01 _) (by first
        | exact ⟨by rw [decide_eq_false c_19]; rfl, go⟩
        | exact ⟨by rw [bI_0.mp c_31, Bool.and_false]; rfl, go⟩
        | exact ⟨by rw [decide_eq_true c_19, bI_n c_31]; rfl, go⟩)
